import java.util.NoSuchElementException;

/** Each promise with answers worked out by hand: ordinary inputs, the edges that the document names, wrong inputs. */
public final class PromisesTest {
    private static final int NONE = -1;
    private static final int HIDDEN = -100000000;
    private static int wrong = 0;

    private static void due(int promise, String what, long got, long want) {
        if (got != want) {
            wrong++;
            System.out.println("promise " + promise + ": " + what + " answered " + got + ", due is " + want);
        }
    }

    private static void due(int promise, String what, boolean got, boolean want) {
        due(promise, what, got ? 1 : 0, want ? 1 : 0);
    }

    /** A house with a ball of size 3 and weight 7 and a beam of 100 hairs, slope 12, roughness 2: ways 10 30 60 100. */
    private static GrooveHouse furnished() {
        GrooveHouse x = new GrooveHouse();
        x.ball(3, 7);
        x.beam(100, 12, 2);
        return x;
    }

    /** The same with a long beam (number 1) of slope 20 and roughness 4 and these laws. */
    private static GrooveHouse ruled(String... laws) {
        GrooveHouse x = furnished();
        x.beam(12000, 20, 4);
        for (int i = 0; i < laws.length; i++) {
            due(7, laws[i], Texts.law(x, laws[i]), i);
        }
        return x;
    }

    private static void newObject() {
        GrooveHouse x = new GrooveHouse();
        for (int what = 0; what <= 8; what++) {
            due(1, "count(" + what + ")", x.count(what), 0);
        }
        due(1, "left", x.left(), 0);
        due(1, "way", x.way(0, 0, 0, 0), NONE);
        due(1, "value", x.value(0, 0, 0, 0, 0, 0), HIDDEN);
        due(1, "drawn", x.drawn(0, 0, 0, 1, 0, 0), HIDDEN);
    }

    private static void ballsAndBeams() {
        GrooveHouse x = new GrooveHouse();
        int[][] wrongBalls = {{0, 1}, {51, 1}, {1, 0}, {1, 1000}, {-1, 1}, {Integer.MAX_VALUE, 1}};
        for (int[] b : wrongBalls) {
            due(2, "a ball out of bounds", x.ball(b[0], b[1]), NONE);
        }
        for (int i = 0; i < 8; i++) {
            due(2, "ball", i % 2 == 0 ? x.ball(1, 999) : x.ball(50, 1), i);
        }
        due(2, "a ninth ball", x.ball(1, 1), NONE);
        due(2, "balls", x.count(0), 8);
        int[][] wrongBeams = {{9, 1, 0}, {12001, 1, 0}, {10, 0, 0}, {10, 101, 0}, {10, 1, -1}, {10, 1, 51}};
        for (int[] b : wrongBeams) {
            due(3, "a beam out of bounds", x.beam(b[0], b[1], b[2]), NONE);
        }
        for (int i = 0; i < 6; i++) {
            due(3, "beam", i % 2 == 0 ? x.beam(10, 100, 0) : x.beam(12000, 1, 50), i);
        }
        due(3, "a seventh beam", x.beam(10, 1, 0), NONE);
        due(3, "beams", x.count(1), 6);
    }

    private static void tape() {
        GrooveHouse x = new GrooveHouse();
        due(4, "bytes of 0 are left out", x.feed(0x67003a00, 0, 0x31, 0, 0), 3);
        due(4, "the highest first", x.fault(0), NONE);
        due(4, "nothing more", x.feed(0, 0, 0, 0, 0), 3);
        due(4, "bytes above 127", x.feed(0xff80fe00, 0, 0, 0, 0xff), 7);
        due(4, "they are no signs", x.fault(0), 3);
        due(5, "end below 0", x.end(-1), false);
        due(5, "end beyond", x.end(8), false);
        due(5, "end at the length", x.end(7), true);
        due(5, "end", x.end(3), true);
        due(5, "the first bytes stay", x.fault(0), NONE);
        due(5, "bytes", x.count(8), 3);
        x.end(0);
        for (int i = 1; i <= 6; i++) {
            int four = 0x31313131;
            due(4, "twenty bytes", x.feed(four, four, four, four, four), 20 * i);
        }
        due(4, "none more fits in", x.feed(0, 0, 0, 0, 1), NONE);
        due(4, "and nothing changed", x.count(8), 120);
        due(4, "no byte may come", x.feed(0, 0, 0, 0, 0), 120);
        x.end(101);
        due(4, "all or nothing", x.feed(-1, -1, -1, -1, -1), NONE);
        due(4, "nothing came", x.count(8), 101);
    }

    private static void fault(String text, int sort, int want) {
        GrooveHouse x = new GrooveHouse();
        Texts.put(x, text);
        due(6, "fault(" + sort + ") of '" + text + "'", x.fault(sort), want);
        due(6, "the tape stays", x.count(8), text.length());
    }

    private static void faults() {
        String[] laws = {
            "g:1", "  g : 1  ", "g:1;d:2;q:3", "g:1 ;  d : 2", "g:t+x-v*s/r+w*z-n", "g:t=1?2", "g:(t=1)?1", "g:!t=1?2",
            "g:t=1&x=2|v<3&!(s>4)?5", "g:[1]", "g:[[[[[[1]]]]]]", "g:((((((t=1))))))?1", "g:!!!!!!t=1?2", "g:0000",
            "g:[[[1]]]+[[[2]]]*[[[[[[3]]]]]]", "g:!(!(!(t=1)))?1", "g:[t]=1?2", "g:1<2?3;g:4", "g:t+1*2>3-4?5",
        };
        for (String text : laws) {
            fault(text, 0, NONE);
            fault(text, 1, text.indexOf('g'));
        }
        fault("g:t=[[[[[[1]]]]]]&[[[[[[2]]]]]]=3|[[[[[[4]]]]]]=5?[[[[[[6]]]]]]", 0, NONE);
        fault("g:1;".repeat(29) + "d:1", 0, NONE);
        fault("g:1;".repeat(30), 0, 120);
        fault("g:" + "1+".repeat(59), 0, 120);
        fault("g: " + "1*".repeat(58) + "1", 0, NONE);
        fault("g:" + "t".repeat(118), 0, 3);
        fault(" ".repeat(120), 0, 120);
        fault("y:t*s-r+w/z*a+b", 1, NONE);
        fault("y:t=1?a;y:b", 1, NONE);
        fault("y:1", 0, 0);
        Object[][] bad = {
            {"", 0}, {" ", 1}, {"g", 1}, {"g:", 2}, {"g: ", 3}, {"g:1;", 4}, {"g:1;;", 4}, {"g:1;y:2", 4},
            {"g:12345", 6}, {"g:00000", 6}, {"g:1 2", 4}, {"g: 12 34", 6}, {"g:1t", 3}, {"g:t1", 3}, {"g:a", 2},
            {"g:b", 2}, {"g:t=1", 5}, {"g:t=1;d:1", 5}, {"g:t?1", 3}, {"g:t=1=2?1", 5}, {"g:t<1>2?3", 5}, {"g:(t)", 4},
            {"g:(t=1)+1", 7}, {"g:(t=1)=1?2", 7}, {"g:(t=1)", 7}, {"g:!t?2", 4}, {"g:t=(1)?2", 4}, {"g:[1", 4},
            {"g:[t=1]", 4}, {"g:1+", 4}, {"g:+1", 2}, {"g:-1", 2}, {"g:1++1", 4}, {"g:t=1&?2", 6}, {"g:t=1?", 6},
            {"g:t=1?t=2", 7}, {"g:t=1?(1)", 6}, {"g:[[[[[[[1", 8}, {"g:(((((([t]=1))))))?1", 8}, {"g:!!!!!![t]=1?2", 8},
            {"g:!(!(!(!t=1)))?1", 8}, {"G:1", 0}, {"\tg:1", 0}, {"g:1)", 3}, {"g:1]", 3}, {"g:t&x=1?2", 3},
            {"g:(t=1]?2", 6}, {"gd:1", 1}, {"g;1", 1}, {"g:t= =1?2", 5}, {"g:1*/2", 4}, {"g:[]", 3}, {"g:()?1", 3},
            {"g:t==1?2", 4}, {"g:t=1??2", 6}, {"g:1?2", 3}, {"g:t=1|&t=2?3", 6}, {"g:t=1|?2", 6}, {"g:t=1?2*;d:3", 8},
            {"g:t=?2", 4}, {"g:1*;d:1", 4}, {"g:t=1?[[[[[[[1", 12}, {"g:t=[[[[[[[1", 10}, {"g:t=1&[[[[[[[1", 12},
            {"g:t=1|[[[[[[[1", 12}, {"g:1<12345?6", 8},
        };
        for (Object[] one : bad) {
            fault((String) one[0], 0, (Integer) one[1]);
        }
        for (String letter : new String[] {"x", "v", "n", "y"}) {
            fault("y:" + letter, 1, 2);
        }
        GrooveHouse x = new GrooveHouse();
        due(6, "no such sort", x.fault(2), -2);
        due(6, "no such sort", x.fault(-1), -2);
    }

    private static void lawsAndGuesses() {
        GrooveHouse x = new GrooveHouse();
        due(7, "an empty tape", x.law(), NONE);
        Texts.put(x, "y:a");
        due(7, "a guess is no law", x.law(), NONE);
        due(7, "the tape stays", x.count(8), 3);
        due(8, "it is a guess", x.guess(), 0);
        due(8, "the tape is empty", x.count(8), 0);
        due(8, "an empty tape", x.guess(), NONE);
        for (int i = 0; i < 8; i++) {
            due(7, "law", Texts.law(x, "g:1"), i);
            due(7, "the tape is empty", x.count(8), 0);
        }
        due(7, "a ninth law", Texts.law(x, "g:1"), NONE);
        due(7, "the tape stays", x.count(8), 3);
        due(8, "a law is no guess", x.guess(), NONE);
        for (int i = 1; i < 8; i++) {
            due(8, "guess", Texts.guess(x, "y:t"), i);
        }
        due(8, "a ninth guess", Texts.guess(x, "y:t"), NONE);
        due(8, "the tape stays", x.count(8), 3);
        due(38, "laws", x.count(2), 8);
        due(38, "guesses", x.count(3), 8);
    }

    private static void way(String law, int ticks, int way, int speed) {
        GrooveHouse x = ruled(law);
        due(10, "way by " + law + " after " + ticks, x.way(0, 0, 1, ticks), way);
        due(11, "speed by " + law + " after " + ticks, x.speed(0, 0, 1, ticks), speed);
    }

    private static void ways() {
        way("g:t+1", 0, 0, 0);
        way("g:t+1", 1, 1, 1);
        way("g:t+1", 4, 20, 10);
        way("g:0-5", 9, 0, 0);
        way("g:9999", 1, 9999, 9999);
        way("g:9999", 3, 29999, 10000);
        way("g:9999", 1000, 9999999, 10000);
        way("g:x>5?0-100;g:3", 2, 9, 6);
        way("g:x>5?0-100;g:3", 3, 9, 0);
        way("g:v=0?8;g:0-3", 4, 8 + 5 + 2 + 0, 0);
        way("g:t=0?5", 2, 5 + 21, 21);
        way("d:7", 2, 16 + 32, 32);
        way("g:s*100+r*10+w+z*1000-n*5000", 1, 2000 + 40 + 7 + 3000, 5047);
        way("g:9999*9999/1000", 1, 1000, 1000);
        way("g:0-9999*9999/9999+101", 1, 1, 1);
        way("g:[0-7]/2+5", 1, 2, 2);
        way("g:7/[t-t]+4", 1, 4, 4);
        way("g:9999*9999+9999-9999*100", 1, 1000000 - 999900, 100);
        way("g:1+2*3-8/4", 1, 5, 5);
        way("g:100/7/2*3", 1, 21, 21);
        way("g:t=1|t=0&s>99?9;g:1", 2, 1 + 10, 10);
        way("g:!t=1&t<2?9;g:1", 2, 9 + 10, 10);
        way("g:!(t=1&t<2)?9;g:1", 2, 9 + 10, 10);
        way("g:t>0?5;d:2;g:t=0?4", 2, 4 + 9, 9);
        way("g:!t=0|t=0?4;g:9", 2, 4 + 8, 8);
        way("g:!!!t=0?4;g:9", 2, 9 + 13, 13);
        way("g:!!t=0&!!t<5?4;g:9", 2, 4 + 13, 13);
        way("g: " + "1+".repeat(58) + "1", 1, 59, 59);
        way("g:0<1&" + "[1]=1&".repeat(18) + "3=3?7", 1, 7, 7);
        way("d:1;".repeat(29) + "g:6", 1, 6, 6);
        way("g:[0-3]*2<[0-5]?4;g:6", 1, 4, 4);
        GrooveHouse x = ruled("g:1");
        int[][] none = {{1, 0, 0, 1}, {-1, 0, 0, 1}, {0, 1, 0, 1}, {0, -1, 0, 1}, {0, 0, 2, 1}, {0, 0, -1, 1},
            {0, 0, 0, -1}, {0, 0, 0, 1001}};
        for (int[] n : none) {
            due(10, "no such way", x.way(n[0], n[1], n[2], n[3]), NONE);
            due(11, "no such speed", x.speed(n[0], n[1], n[2], n[3]), NONE);
        }
    }

    private static void clicks() {
        GrooveHouse x = ruled("g:t=0?1;g:0;d:t=0?1;d:0", "d:s+r", "d:w*10+z-n", "g:0;d:0");
        due(12, "the last tick", x.click(0, 0, 1, 1000), 1000);
        due(12, "no click", x.click(0, 0, 1, 1001), NONE);
        due(12, "it never rolls", x.click(3, 0, 1, 1), NONE);
        due(12, "the length", x.click(1, 0, 0, 100), 4);
        due(12, "beyond it", x.click(1, 0, 0, 101), NONE);
        due(12, "place 0", x.click(1, 0, 0, 0), NONE);
        due(12, "place 1", x.click(1, 0, 0, 1), 1);
        due(12, "just reached", x.click(1, 0, 0, 30), 2);
        due(12, "just missed", x.click(1, 0, 0, 31), 3);
        x.ball(2, 30);
        due(12, "weight does not count", x.click(1, 1, 0, 30), 2);
        due(11, "another ball on another beam", x.speed(1, 1, 1, 2), 32);
        due(13, "another ball", x.fall(2, 1, 302), 1);
        due(13, "another ball", x.fall(2, 1, 303), 2);
        due(12, "no such law", x.click(4, 0, 0, 1), NONE);
        due(12, "no such ball", x.click(0, 2, 0, 1), NONE);
        due(12, "no such beam", x.click(0, 0, 2, 1), NONE);
        due(13, "the last tick", x.fall(0, 0, 1000), 1000);
        due(13, "no click", x.fall(0, 0, 1001), NONE);
        due(13, "slope 100, no roughness", x.fall(1, 0, 100), 1);
        due(13, "slope 100, no roughness", x.fall(1, 0, 101), 2);
        due(13, "weight and size", x.fall(2, 0, 73), 1);
        due(13, "weight and size", x.fall(2, 0, 74), 2);
        due(13, "it never falls", x.fall(3, 0, 1), NONE);
        due(13, "height 0", x.fall(0, 0, 0), NONE);
        due(13, "height 1", x.fall(0, 0, 1), 1);
        due(13, "too high", x.fall(1, 0, 12001), NONE);
        due(13, "the highest", x.fall(1, 0, 12000), 15);
        due(13, "no such law", x.fall(4, 0, 1), NONE);
        due(13, "no such ball", x.fall(0, 2, 1), NONE);
        GrooveHouse y = ruled("g:3");
        due(13, "without d", y.fall(0, 0, 30), 2);
    }

    private static void cups() {
        GrooveHouse x = ruled("q:t", "q:50", "q:0-5", "g:1", "q:t=0?3", "q:x+v+s+r+w+z+2", "q:n/2");
        int[][] due = {{0, 100, 4, 6}, {1, 120, 1, 50}, {1, 120, 2, 100}, {1, 120, 3, 120}, {1, 120, 1000, 120},
            {2, 9, 5, 0}, {3, 25, 2, 20}, {3, 25, 3, 25}, {4, 99, 2, 13}, {5, 99, 3, 6}, {6, 100, 3, 50 + 25 + 12}, {6, 0, 9, 0},
            {1, 100000, 1000, 50000}, {1, 120, 0, 0}};
        for (int[] d : due) {
            due(14, "cup by law " + d[0], x.cup(d[0], d[1], d[2]), d[3]);
        }
        due(14, "no such law", x.cup(7, 1, 1), NONE);
        due(14, "bucket", x.cup(0, -1, 1), NONE);
        due(14, "bucket", x.cup(0, 100001, 1), NONE);
        due(14, "ticks", x.cup(0, 1, -1), NONE);
        due(14, "ticks", x.cup(0, 1, 1001), NONE);
    }

    private static boolean refusesTold(GrooveHouse x, int trial, int what) {
        try {
            x.told(trial, what);
            return false;
        } catch (NoSuchElementException e) {
            return true;
        }
    }

    /** Letters that are not told of what is asked are 0, whatever has been asked before. */
    private static void untoldLetters() {
        GrooveHouse x = ruled("g:n+1;d:n+2;q:s+r+w+z+x+v", "g:t+10;q:s+r+w+z+x+v+n/20");
        Texts.guess(x, "y:s+r+w+z+a+b");
        x.trial(1, 0, 0, 11, 100, 1, 0);
        due(14, "nothing asked before", x.cup(0, 100, 1), 0);
        due(10, "a run before", x.way(0, 0, 0, 5), 15);
        due(14, "nothing flows", x.cup(0, 100, 5), 0);
        due(19, "a guess before", x.value(0, 4, 5, 0, 0, 9), 12 + 2 + 7 + 3 + 4 + 5);
        due(14, "nothing flows", x.cup(0, 100, 5), 0);
        due(14, "5 of 100, 4 of 95, 4 of 91", x.cup(1, 100, 3), 13);
        due(10, "water before", x.way(0, 0, 1, 5), 15);
        due(14, "water again", x.cup(1, 100000, 1), 5000);
        due(13, "2, 6 and 12", x.fall(0, 0, 12), 3);
        due(17, "1, 3, 6, 10 and 15, but nothing flows", x.is(0, 0), 0);
        due(17, "10 and 21: two ticks", x.is(1, 0), 9);
    }

    private static void trials() {
        GrooveHouse x = furnished();
        int[][] none = {{3, 0, 0, 5, 0, 1, 0}, {-1, 0, 0, 5, 0, 1, 0}, {0, 1, 0, 5, 0, 1, 0}, {0, 0, 1, 5, 0, 1, 0},
            {0, 0, 0, 0, 0, 1, 0}, {0, 0, 0, 101, 0, 1, 0}, {1, 0, 0, 101, 0, 1, 0}, {2, 0, 0, 12001, 0, 1, 0},
            {2, 0, 0, 0, 0, 1, 0}, {0, 0, 0, 5, 0, 0, 0}, {0, 0, 0, 5, 0, 100, 0}, {0, 0, 0, 5, 0, 1, -1},
            {0, 0, 0, 5, 0, 1, 51}, {1, 0, 0, 5, -1, 1, 0}, {1, 0, 0, 5, 100001, 1, 0}};
        for (int[] n : none) {
            due(15, "no such trial", x.trial(n[0], n[1], n[2], n[3], n[4], n[5], n[6]), NONE);
        }
        due(15, "nothing changed", x.count(4), 0);
        due(15, "clicked, the bucket does not count", x.trial(0, 0, 0, 100, -7, 99, 50), 0);
        due(15, "cupped", x.trial(1, 0, 0, 1, 100000, 1, 0), 1);
        due(15, "thrown, higher than the beam is long", x.trial(2, 0, 0, 12000, 200000, 2, 3), 2);
        int[][] told = {{0, 0, 0, 100, 0, 99, 50, NONE}, {1, 0, 0, 1, 100000, 1, 0, NONE},
            {2, 0, 0, 12000, 0, 2, 3, NONE}};
        for (int i = 0; i < 3; i++) {
            for (int what = 0; what < 8; what++) {
                due(16, "told(" + i + ", " + what + ")", x.told(i, what), told[i][what]);
            }
        }
        due(16, "no such trial", refusesTold(x, 3, 0), true);
        due(16, "no such trial", refusesTold(x, -1, 0), true);
        due(16, "nothing such", refusesTold(x, 0, 8), true);
        due(16, "nothing such", refusesTold(x, 0, -1), true);
        x.ball(1, 1);
        x.beam(20, 1, 1);
        x.trial(0, 1, 1, 20, 0, 1, 0);
        due(16, "ball", x.told(3, 1), 1);
        due(16, "beam", x.told(3, 2), 1);
        due(15, "an empty bucket", x.trial(1, 1, 1, 20, 0, 1, 0), 4);
        for (int i = 5; i < 30; i++) {
            due(15, "trial", x.trial(0, 0, 0, 5, 0, 1, 0), i);
        }
        due(15, "a thirty-first trial", x.trial(0, 0, 0, 5, 0, 1, 0), NONE);
        due(16, "no such trial", refusesTold(x, 30, 0), true);
        due(18, "no such trial", x.write(30, 5), false);
        Texts.law(x, "g:1");
        due(17, "no such trial", x.is(0, 30), NONE);
    }

    private static void truths() {
        GrooveHouse x = ruled("q:n/10", "g:9999;d:t=0?1;d:0", "g:0", "d:0");
        x.trial(0, 0, 0, 61, 0, 1, 0);
        x.trial(1, 0, 0, 30, 100, 1, 0);
        x.trial(2, 0, 0, 60, 0, 1, 0);
        x.trial(2, 0, 1, 1000, 0, 1, 0);
        due(17, "clicked", x.is(0, 0), 4);
        due(17, "cupped", x.is(0, 1), 19);
        due(17, "thrown", x.is(0, 2), 40 * 3);
        due(17, "thrown very far", x.is(1, 3), 10000000);
        due(9, "roll", x.roll(1, 999), true);
        due(17, "rolled very far", x.is(1, 3), 9990000);
        due(9, "roll 0", x.roll(1, 0), true);
        due(17, "not rolled at all", x.is(1, 3), 0);
        due(9, "roll below", x.roll(1, -1), false);
        due(9, "roll above", x.roll(1, 1001), false);
        due(9, "no such law", x.roll(4, 5), false);
        due(9, "no such law", x.roll(-1, 5), false);
        due(17, "what was refused changed nothing", x.is(1, 3), 0);
        due(9, "of that law alone", x.is(0, 2), 120);
        x.roll(0, 714);
        due(17, "cut", x.is(0, 2), 85);
        due(17, "clicked ones do not mind it", x.is(0, 0), 4);
        for (int i = 0; i < 4; i++) {
            due(17, "no click", x.is(2, i), NONE);
        }
        due(17, "no fall", x.is(3, 2), NONE);
        due(17, "no such law", x.is(4, 0), NONE);
        due(17, "no such trial", x.is(0, 4), NONE);
    }

    private static void writings() {
        GrooveHouse x = furnished();
        x.trial(0, 0, 0, 60, 0, 1, 0);
        x.trial(2, 0, 0, 60, 0, 1, 0);
        due(18, "write", x.write(0, 0), true);
        due(18, "write", x.write(1, 1000000), true);
        due(18, "told", x.told(1, 7), 1000000);
        due(18, "told", x.told(0, 7), 0);
        due(38, "written ones", x.count(5), 2);
        due(18, "too much", x.write(0, 1000001), false);
        due(18, "too little", x.write(0, -2), false);
        due(18, "no such trial", x.write(2, 5), false);
        due(18, "no such trial", x.write(-1, 5), false);
        due(18, "unchanged", x.told(0, 7), 0);
        due(18, "the latest", x.write(0, 9), true);
        due(18, "told", x.told(0, 7), 9);
        due(18, "not any more", x.write(1, NONE), true);
        due(18, "told", x.told(1, 7), NONE);
        due(38, "written ones", x.count(5), 1);
    }

    private static void values() {
        GrooveHouse x = furnished();
        Texts.guess(x, "y:t*9000+s*1000+r*100+w*10+z+a-b");
        Texts.guess(x, "y:t<5?1");
        Texts.guess(x, "y:t*9999");
        due(19, "all letters", x.value(0, 30, 4, 0, 0, 1), 9000 + 12000 + 200 + 70 + 3 + 30 - 4);
        due(19, "there is one", x.value(1, 0, 0, 0, 0, 4), 1);
        due(19, "there is none", x.value(1, 0, 0, 0, 0, 5), HIDDEN);
        due(19, "tick 0", x.value(1, 30, 30, 0, 0, 0), 1);
        due(19, "a million at most", x.value(2, 0, 0, 0, 0, 1000), 1000000);
        int[][] none = {{3, 0, 0, 0, 0, 0}, {-1, 0, 0, 0, 0, 0}, {1, 31, 0, 0, 0, 0}, {1, -1, 0, 0, 0, 0},
            {1, 0, 31, 0, 0, 0}, {1, 0, -1, 0, 0, 0}, {1, 0, 0, 1, 0, 0}, {1, 0, 0, 0, 1, 0}, {1, 0, 0, 0, 0, -1},
            {2, 0, 0, 0, 0, 1001}};
        for (int[] n : none) {
            due(19, "no such ones", x.value(n[0], n[1], n[2], n[3], n[4], n[5]), HIDDEN);
        }
    }

    private static void fits() {
        GrooveHouse x = furnished();
        Texts.guess(x, "y:a+b");
        Texts.guess(x, "y:t=3?a");
        Texts.guess(x, "y:a*2+b*2+100");
        x.trial(0, 0, 0, 5, 0, 1, 0);
        due(20, "nothing written", x.fits(0, NONE), 961);
        due(20, "one asked for first", x.fits(1, 7), 7);
        due(20, "one before it", x.fits(1, 2), 2);
        due(20, "all of them", x.fits(1, NONE), 961);
        due(20, "the last", x.fits(0, 960), 960);
        due(20, "none behind it", x.fits(0, 961), NONE);
        x.write(0, 3);
        int[] sums = {5, 35, 65, 95, 125, 155};
        due(20, "a and b are five", x.fits(0, NONE), 6);
        for (int i = 0; i < 6; i++) {
            due(20, "fit " + i, x.fits(0, i), sums[i]);
        }
        due(20, "no seventh", x.fits(0, 6), NONE);
        due(20, "wrong i", x.fits(0, -2), NONE);
        due(20, "wrong i", x.fits(0, Integer.MAX_VALUE), NONE);
        due(20, "no such guess", x.fits(3, NONE), NONE);
        due(20, "no such guess", x.fits(-1, 0), NONE);
        due(20, "a alone", x.fits(1, NONE), 31);
        due(20, "no fits", x.fits(2, NONE), 0);
        due(20, "no first one", x.fits(2, 0), NONE);
        due(21, "no fits", x.span(2, 0), NONE);
        int[] span = {5, 5, 0, 30};
        for (int what = 0; what < 4; what++) {
            due(21, "span of a and b", x.span(0, what), what % 2 == 0 ? 0 : 5);
            due(21, "span of a alone", x.span(1, what), span[what]);
        }
        due(21, "nothing such", x.span(0, 4), NONE);
        due(21, "nothing such", x.span(0, -1), NONE);
        due(21, "no such guess", x.span(3, 0), NONE);
        due(22, "the third is out", x.left(), 3);
        x.write(0, 4);
        due(22, "the second has no worth then", x.left(), 1);
        x.write(0, 0);
        due(20, "0 is no tick", x.fits(2, NONE), 961);
        x.write(0, 1001);
        due(20, "1,001 is no tick", x.fits(2, NONE), 961);
        x.write(0, 1000);
        due(20, "1,000 is one", x.fits(2, NONE), 0);
        x.write(0, 1);
        due(20, "1 is one", x.fits(2, NONE), 0);
        x.write(0, NONE);
        due(20, "not written any more", x.fits(2, NONE), 961);
        due(22, "all are left", x.left(), 7);
        fitsOfSeveral();
    }

    private static void fitsOfSeveral() {
        GrooveHouse x = furnished();
        Texts.guess(x, "y:a*t+b");
        x.trial(0, 0, 0, 20, 0, 1, 1);
        x.trial(0, 0, 0, 50, 0, 1, 0);
        x.trial(1, 0, 0, 50, 5, 1, 0);
        x.trial(2, 0, 0, 50, 0, 1, 0);
        x.write(0, 2);
        due(20, "2 a and b 19 .. 21", x.fits(0, NONE), 10 + 11 + 11);
        x.write(1, 5);
        due(20, "and 5 a and b 50", x.fits(0, NONE), 1);
        due(20, "which is 10, 0", x.fits(0, 0), 310);
        x.write(2, 7);
        x.write(3, 7);
        due(20, "others do not count", x.fits(0, NONE), 1);
    }

    /** A place and a number that a or b would have to be 31 for: no pair goes so far. */
    private static void noPairBeyondThirty() {
        GrooveHouse x = furnished();
        Texts.guess(x, "y:a");
        Texts.guess(x, "y:b");
        x.trial(0, 0, 0, 31, 0, 1, 0);
        x.write(0, 1);
        int sheet = x.sheet();
        x.number(sheet, 31);
        due(22, "none is left", x.left(), 0);
        for (int guess = 0; guess < 2; guess++) {
            due(20, "no fits", x.fits(guess, NONE), 0);
            due(20, "no first fit", x.fits(guess, 0), NONE);
            due(21, "no span", x.span(guess, 1), NONE);
            due(31, "none found", x.found(sheet, guess, 0, 0, 1, NONE), 0);
            due(31, "no first one", x.found(sheet, guess, 0, 0, 1, 0), NONE);
            due(32, "the first pair works as little as any", x.most(sheet, guess, 0, 0, 1, 0), 0);
            due(32, "nothing worked", x.most(sheet, guess, 0, 0, 1, 1), 0);
            due(32, "all of it is off", x.most(sheet, guess, 0, 0, 1, 2), 31);
        }
    }

    private static void parts() {
        GrooveHouse x = furnished();
        String[] texts = {"y:t*t", "y:10", "y:t=2?7", "y:3", "y:a", "y:0-9999*9999", "y:9999*9999"};
        for (String text : texts) {
            Texts.guess(x, text);
        }
        int[][] due = {{0, 1, 5, 5, 15}, {0, 1, 4, 1, 9}, {1, 0, 4, 1, 9}, {2, 3, 9, 2, 4}, {3, 2, 1, 1, 3},
            {1, 3, 1000, 1, 7}, {0, 0, 9, 1, 0}, {0, 3, 1000, 1000, 1000000 - 3}, {5, 6, 2, 1, 2000000}};
        for (int[] d : due) {
            due(23, "tick that parts " + d[0] + ", " + d[1], x.parts(d[0], d[1], 0, 0, d[2], 0), d[3]);
            due(23, "how far are " + d[0] + ", " + d[1], x.parts(d[0], d[1], 0, 0, d[2], 1), d[4]);
        }
        int[][] none = {{8, 0, 0, 0, 5, 0}, {0, 8, 0, 0, 5, 0}, {0, 1, 1, 0, 5, 0}, {0, 1, 0, 1, 5, 0},
            {0, 1, 0, 0, 0, 0}, {0, 1, 0, 0, 1001, 0}, {0, 1, 0, 0, 5, 2}, {0, 1, 0, 0, 5, -1}, {-1, 1, 0, 0, 5, 0}};
        for (int[] n : none) {
            due(23, "no such ones", x.parts(n[0], n[1], n[2], n[3], n[4], n[5]), NONE);
        }
        x.trial(0, 0, 0, 25, 0, 1, 0);
        x.write(0, 5);
        due(23, "by the first fit", x.parts(0, 4, 0, 0, 9, 1), 81 - 25);
        due(23, "at", x.parts(0, 4, 0, 0, 9, 0), 9);
        Texts.guess(x, "y:a*t+b");
        due(23, "the first fit is 0 and 25", x.parts(7, 7, 0, 0, 9, 1), 0);
        due(23, "the first fit is 0 and 25", x.parts(7, 0, 0, 0, 10, 1), 75);
        due(23, "the first fit is 0 and 25", x.parts(0, 7, 0, 0, 5, 1), 24);
        due(23, "one has no fits", x.parts(0, 1, 0, 0, 9, 0), NONE);
        due(23, "the other has none", x.parts(1, 0, 0, 0, 9, 0), NONE);
    }

    private static void worlds() {
        GrooveHouse x = ruled("g:s-r", "g:t=0?1;g:0", "g:0");
        String[] texts = {"y:20*t", "y:t", "y:t=3?60;y:t=60?60", "y:a*4+b"};
        for (String text : texts) {
            Texts.guess(x, text);
        }
        due(24, "without trials in all", x.worlds(0, 0, 0), 7);
        x.trial(1, 0, 0, 77, 5, 1, 0);
        x.trial(0, 0, 0, 60, 0, 1, 2);
        due(24, "in the first", x.worlds(0, 0, 0), 1);
        due(24, "in the second", x.worlds(1, 0, 0), 2);
        due(24, "in two", x.worlds(2, 0, 0), 3);
        due(24, "within slack", x.worlds(3, 15, 2), 3);
        due(24, "beyond slack", x.worlds(3, 15, 3), 0);
        x.trial(0, 0, 0, 30, 0, 1, 10);
        due(24, "by every trial", x.worlds(0, 0, 0), 1);
        due(24, "one without worth", x.worlds(2, 0, 0), 0);
        GrooveHouse y = ruled("g:10");
        Texts.guess(y, "y:a");
        y.trial(0, 0, 0, 60, 0, 1, 0);
        due(24, "one trial", y.worlds(0, 30, 0), 0);
        due(24, "no such guess", x.worlds(4, 0, 0), NONE);
        due(24, "no such pair", x.worlds(0, 31, 0), NONE);
        due(24, "no such pair", x.worlds(0, 0, -1), NONE);
    }

    /** Three guesses: the first is wrong at 30 and 100, the second at 60 and 100, the third nowhere. */
    private static GrooveHouse guessed() {
        GrooveHouse x = ruled("g:10", "g:0");
        Texts.guess(x, "y:t=2?0;y:t=1?10;y:60");
        Texts.guess(x, "y:t=3?0;y:t=1?10;y:30");
        Texts.guess(x, "y:t*[t+1]*[5+a]");
        return x;
    }

    private static void cheap(GrooveHouse x, String what, int bits, int cost, int guess) {
        due(26, what + ": trials", x.cheapest(0, 0), bits);
        due(26, what + ": cost", x.cheapest(0, 1), cost);
        due(26, what + ": guess", x.cheapest(0, 2), guess);
    }

    private static void cheapest() {
        GrooveHouse x = guessed();
        cheap(x, "no trials", NONE, NONE, NONE);
        x.trial(0, 0, 0, 30, 0, 5, 0);
        x.trial(0, 0, 0, 100, 0, 10, 0);
        x.trial(0, 0, 0, 10, 0, 1, 0);
        cheap(x, "one is enough", 2, 10, 2);
        x.trial(0, 0, 0, 60, 0, 5, 0);
        cheap(x, "two that cost the same, with a lower one", 9, 10, 2);
        x.trial(1, 0, 0, 60, 3, 1, 0);
        x.trial(0, 0, 0, 100, 0, 9, 0);
        cheap(x, "a cheaper one behind a cupped one", 32, 9, 2);
        due(25, "pin", x.pin(2, 1, 0), true);
        cheap(x, "a third that is wrong, too", 1, 5, 1);
        due(25, "no such guess", x.pin(3, 0, 0), false);
        due(25, "no such pair", x.pin(2, 31, 0), false);
        due(25, "no such pair", x.pin(2, 0, -1), false);
        due(25, "pinned as before", x.cheapest(0, 2), 1);
        due(26, "a law in which nothing clicks", x.cheapest(1, 0), NONE);
        due(26, "no such law", x.cheapest(2, 0), NONE);
        due(26, "nothing such", x.cheapest(0, 3), NONE);
        due(26, "nothing such", x.cheapest(0, -1), NONE);
        cheapestOfTen();
    }

    private static void cheapestOfTen() {
        GrooveHouse x = guessed();
        for (int i = 0; i < 9; i++) {
            x.trial(0, 0, 0, 10, 0, 1, 0);
        }
        x.trial(2, 0, 0, 10, 0, 1, 0);
        x.trial(0, 0, 0, 100, 0, 99, 40);
        cheap(x, "the tenth clicked one, but its slack lets the first", NONE, NONE, NONE);
        x.trial(0, 0, 0, 100, 0, 1, 0);
        cheap(x, "the eleventh does not count", NONE, NONE, NONE);
        GrooveHouse y = guessed();
        y.trial(0, 0, 0, 100, 0, 10, 0);
        y.trial(0, 0, 0, 30, 0, 5, 0);
        y.trial(0, 0, 0, 60, 0, 5, 0);
        cheap(y, "the lower one alone", 1, 10, 2);
        GrooveHouse z = furnished();
        Texts.law(z, "g:10");
        due(26, "no guesses", z.cheapest(0, 0), NONE);
        Texts.guess(z, "y:1");
        cheap(z, "one guess", 0, 0, 0);
        Texts.law(z, "g:0");
        z.trial(0, 0, 0, 10, 0, 3, 0);
        Texts.guess(z, "y:a+b+t");
        due(26, "both are refuted, 0 and 0 are pinned", z.cheapest(0, 0), NONE);
        z.pin(1, 4, 5);
        cheap(z, "but not by 4 and 5", 1, 3, 1);
        due(26, "what does not click refutes nothing", z.cheapest(1, 0), NONE);
        z.pin(1, 0, 0);
        Texts.guess(z, "y:10-a");
        cheap(z, "a third, by 0 and 0 again", 1, 3, 2);
    }

    private static void pinnedAtFirst() {
        String[] open = {"a", "b"};
        for (String number : open) {
            GrooveHouse x = furnished();
            Texts.law(x, "g:10");
            x.trial(0, 0, 0, 10, 0, 3, 0);
            Texts.guess(x, "y:9+" + number);
            Texts.guess(x, "y:10+" + number);
            cheap(x, number + " is 0 at first", 1, 3, 1);
            x.pin(0, 1, 1);
            x.pin(1, 1, 1);
            cheap(x, number + " is 1 then", 1, 3, 0);
        }
    }

    private static void strings() {
        GrooveHouse x = ruled("g:t=0?5;g:10", "g:t=0?1;g:0", "g:10");
        x.beam(70, 12, 2);
        due(27, "one three five", x.odd(0, 0, 0, 1, 4, 0), 4);
        due(27, "by steps of two", x.odd(0, 0, 0, 2, 3, 0), 3);
        due(27, "even ways", x.odd(1, 0, 0, 1, 6, 0), 1);
        due(27, "with an ear of 4", x.odd(1, 0, 0, 1, 6, 4), 3);
        due(27, "with an ear of 3", x.odd(1, 0, 0, 1, 6, 3), 2);
        due(27, "one string", x.odd(1, 0, 0, 1000, 1, 100), 1);
        due(27, "a thousand ticks", x.odd(1, 0, 0, 200, 5, 0), 1);
        int[][] none = {{3, 0, 0, 1, 1, 0}, {0, 1, 0, 1, 1, 0}, {0, 0, 3, 1, 1, 0}, {0, 0, 0, 0, 1, 0},
            {0, 0, 0, 1, 0, 0}, {0, 0, 0, 1, 7, 0}, {0, 0, 0, 167, 6, 0}, {0, 0, 0, 1, 1, -1}, {0, 0, 0, 1, 1, 101},
            {0, 0, 0, 1 << 30, 4, 0}, {0, 0, 0, -1, 2, 0}};
        for (int[] n : none) {
            due(27, "no such strings", x.odd(n[0], n[1], n[2], n[3], n[4], n[5]), NONE);
        }
        int[][] spans = {{2, 0, 2, 1, 0, 11, 30}, {2, 0, 2, 1, 1, 1, 60}, {2, 0, 2, 2, 0, 61, 100}, {2, 2, 2, 2, 0, 61, 70},
            {2, 0, 2, 2, 100, 1, 100}, {2, 0, 5, 1, 0, NONE, NONE}, {1, 1, 300, 3, 100, 800, 1000},
            {1, 1, 100, 7, 0, 700, 700}, {1, 1, 1, 1000, 0, 1000, 1000}, {1, 1, 1, 1, 5, 1, 6}};
        for (int[] s : spans) {
            due(28, "least place", x.ear(s[0], 0, s[1], s[2], s[3], s[4], 0), s[5]);
            due(28, "greatest place", x.ear(s[0], 0, s[1], s[2], s[3], s[4], 1), s[6]);
        }
        int[][] deaf = {{3, 0, 0, 1, 1, 0, 0}, {0, 1, 0, 1, 1, 0, 0}, {0, 0, 3, 1, 1, 0, 0}, {0, 0, 0, 0, 1, 0, 0},
            {0, 0, 0, 1, 0, 0, 0}, {0, 0, 0, 1, 1, -1, 0}, {0, 0, 0, 1, 1, 101, 0}, {1, 0, 1, 300, 3, 101, 0},
            {1, 0, 1, 100, 10, 1, 0}, {0, 0, 0, 1, 1, 0, 2}, {0, 0, 0, 1, 1, 0, -1}, {0, 0, 0, 1 << 16, 1 << 16, 0, 0}};
        for (int[] d : deaf) {
            due(28, "no such ear", x.ear(d[0], d[1], d[2], d[3], d[4], d[5], d[6]), NONE);
        }
    }

    private static int sheet(GrooveHouse x, int... numbers) {
        int sheet = x.sheet();
        for (int i = 0; i < numbers.length; i++) {
            due(30, "number", x.number(sheet, numbers[i]), i + 1);
        }
        return sheet;
    }

    private static void sheets() {
        GrooveHouse x = new GrooveHouse();
        due(30, "no such sheet", x.number(0, 5), NONE);
        for (int i = 0; i < 10; i++) {
            due(29, "sheet", x.sheet(), i);
        }
        due(29, "an eleventh sheet", x.sheet(), NONE);
        for (int i = 1; i <= 12; i++) {
            due(30, "number", x.number(9, i % 2 == 0 ? 0 : 1000000), i);
        }
        due(30, "a thirteenth number", x.number(9, 5), NONE);
        due(30, "below 0", x.number(8, -1), NONE);
        due(30, "above a million", x.number(8, 1000001), NONE);
        due(30, "no such sheet", x.number(10, 5), NONE);
        due(30, "no such sheet", x.number(-1, 5), NONE);
        due(30, "on another sheet", x.number(0, 5), 1);
        x.ball(1, 1);
        x.beam(10, 1, 1);
        Texts.guess(x, "y:1");
        due(31, "no such sheet", x.found(10, 0, 0, 0, 1, NONE), NONE);
        due(31, "an empty one", x.found(8, 0, 0, 0, 1, NONE), NONE);
        due(31, "a full one", x.found(9, 0, 0, 0, 80, NONE), 0);
        due(38, "sheets", x.count(6), 10);
        due(38, "numbers on sheets", x.count(7), 13);
    }

    private static void found() {
        GrooveHouse x = furnished();
        Texts.guess(x, "y:a*t*[t+1]");
        Texts.guess(x, "y:t=5?1");
        Texts.guess(x, "y:a*t+b");
        int rolled = sheet(x, 10, 30, 60);
        int nought = sheet(x, 0);
        due(31, "all pairs without a", x.found(nought, 0, 0, 0, 1, NONE), 31);
        due(31, "the first of all", x.found(nought, 0, 0, 0, 1, 0), 0);
        due(31, "0 and 0 alone", x.found(nought, 2, 0, 0, 1, NONE), 1);
        due(32, "the first of all", x.most(nought, 2, 0, 0, 1, 0), 0);
        int even = sheet(x, 7, 13, 19, 26);
        int empty = sheet(x);
        due(31, "five and any", x.found(rolled, 0, 0, 0, 1, NONE), 31);
        due(31, "the first", x.found(rolled, 0, 0, 0, 1, 0), 155);
        due(31, "the last", x.found(rolled, 0, 0, 0, 1, 30), 185);
        due(31, "none behind", x.found(rolled, 0, 0, 0, 1, 31), NONE);
        due(31, "wrong i", x.found(rolled, 0, 0, 0, 1, -2), NONE);
        due(31, "by other steps", x.found(rolled, 0, 0, 0, 2, NONE), 0);
        due(31, "a missing worth is no 0", x.found(nought, 1, 0, 0, 1, NONE), 0);
        due(31, "one too much", x.found(even, 2, 0, 0, 1, NONE), 0);
        due(32, "but three of four", x.most(even, 2, 0, 0, 1, 1), 7);
        due(32, "by 6 and 1", x.most(even, 2, 0, 0, 1, 0), 6 * 31 + 1);
        due(32, "one off", x.most(even, 2, 0, 0, 1, 2), 1);
        int ones = sheet(x, 1, 1, 2, 2);
        due(32, "two of four, the first such pair", x.most(ones, 2, 0, 0, 1, 0), 1);
        due(32, "the first two", x.most(ones, 2, 0, 0, 1, 1), 3);
        due(32, "two off", x.most(ones, 2, 0, 0, 1, 2), 2);
        due(32, "by steps of three: 2 and 1", x.most(even, 2, 0, 0, 3, 0), 2 * 31 + 1);
        due(32, "a missing worth does not work", x.most(nought, 1, 0, 0, 1, 1), 0);
        due(32, "it is the first pair then", x.most(nought, 1, 0, 0, 1, 0), 0);
        due(32, "a missing worth is off as 0", x.most(nought, 1, 0, 0, 1, 2), 0);
        due(32, "a missing worth is off as 0", x.most(rolled, 1, 0, 0, 80, 2), 100);
        due(32, "nothing such", x.most(rolled, 0, 0, 0, 1, 3), NONE);
        due(32, "nothing such", x.most(rolled, 0, 0, 0, 1, -1), NONE);
        int[][] none = {{5, 0, 0, 0, 1}, {-1, 0, 0, 0, 1}, {rolled, 3, 0, 0, 1}, {rolled, 0, 1, 0, 1},
            {rolled, 0, 0, 1, 1}, {rolled, 0, 0, 0, 0}, {rolled, 0, 0, 0, 81}, {empty, 0, 0, 0, 1}};
        for (int[] n : none) {
            due(31, "no such ones", x.found(n[0], n[1], n[2], n[3], n[4], NONE), NONE);
            due(32, "no such ones", x.most(n[0], n[1], n[2], n[3], n[4], 0), NONE);
            due(33, "no such ones", x.well(n[0], n[1], n[2], n[3], n[4], 1, 1), NONE);
        }
    }

    private static void well() {
        GrooveHouse x = furnished();
        Texts.guess(x, "y:a*t+b");
        Texts.guess(x, "y:0");
        int good = sheet(x, 3, 6, 9);
        int near = sheet(x, 0, 1);
        int full = sheet(x, 999, 0, 999, 0, 999, 0, 999, 0, 999, 0, 999, 0);
        due(33, "none off: one row", x.well(good, 0, 0, 0, 1, 9, 0), 1);
        due(33, "of 19 19 19", x.well(good, 0, 0, 0, 1, 9, 1), 6859);
        due(33, "one off: five rows", x.well(near, 1, 0, 0, 1, 2, 0), 5);
        due(33, "of 25", x.well(near, 1, 0, 0, 1, 2, 1), 25);
        due(33, "without errors there is one row", x.well(near, 1, 0, 0, 1, 0, 0), 1);
        due(33, "of one", x.well(near, 1, 0, 0, 1, 0, 1), 1);
        due(33, "all rows", x.well(full, 1, 0, 0, 1, 9, 0), 2213314919066161L);
        due(33, "19 to the twelfth", x.well(full, 1, 0, 0, 1, 9, 1), 2213314919066161L);
        due(33, "too great an error", x.well(good, 0, 0, 0, 1, 10, 0), NONE);
        due(33, "too small an error", x.well(good, 0, 0, 0, 1, -1, 0), NONE);
        due(33, "nothing such", x.well(good, 0, 0, 0, 1, 1, 2), NONE);
        due(33, "nothing such", x.well(good, 0, 0, 0, 1, 1, -1), NONE);
    }

    private static void rolls() {
        GrooveHouse x = ruled("g:10", "g:0", "g:9999;d:t=0?1;d:0");
        x.trial(2, 0, 0, 60, 0, 1, 2);
        x.trial(2, 0, 0, 30, 0, 1, 1);
        x.trial(2, 0, 1, 1000, 0, 1, 0);
        x.trial(0, 0, 0, 60, 0, 1, 0);
        x.write(3, 999999);
        due(34, "nothing thrown is written", x.rolls(0, 0), 0);
        due(34, "nothing thrown is written", x.rolls(0, 1), 1000);
        x.write(0, 85);
        due(34, "83 of 120", x.rolls(0, 0), 692);
        due(34, "87 of 120", x.rolls(0, 1), 733);
        x.write(1, 58);
        due(34, "57 of 80", x.rolls(0, 0), 713);
        due(34, "87 of 120 still", x.rolls(0, 1), 733);
        due(34, "without far nothing counts", x.rolls(1, 1), 1000);
        x.write(1, 70);
        due(34, "they do not agree", x.rolls(0, 0), NONE);
        due(34, "they do not agree", x.rolls(0, 1), NONE);
        x.write(0, NONE);
        x.write(1, NONE);
        x.write(2, 1000000);
        due(34, "very far", x.rolls(2, 0), 100);
        due(34, "very far", x.rolls(2, 1), 100);
        x.write(2, NONE);
        due(34, "nothing such", x.rolls(0, 2), NONE);
        due(34, "nothing such", x.rolls(0, -1), NONE);
        due(34, "no such law", x.rolls(3, 0), NONE);
    }

    private static void towers() {
        GrooveHouse x = new GrooveHouse();
        x.ball(10, 1);
        x.ball(5, 1);
        x.ball(20, 1);
        Texts.law(x, "d:z=20?0;d:z>9?20");
        int[][] due = {{0, 1, 0, 0, 1}, {1, 0, 0, 0, 2}, {0, 1, 1, 0, 0}, {0, 1, 2, 0, 2}, {0, 1, 1000, 1000, 1},
            {0, 1, 1000, 999, 0}, {0, 0, 5, 5, 0}, {0, 2, 0, 0, NONE}, {2, 0, 0, 0, NONE}, {0, 3, 0, 0, NONE},
            {-1, 0, 0, 0, NONE}, {0, 1, -1, 0, NONE}, {0, 1, 0, -1, NONE}, {0, 1, 1001, 0, NONE}, {0, 1, 0, 1001, NONE}};
        for (int[] d : due) {
            due(35, "tower of " + d[0] + ", " + d[1], x.tower(0, d[0], d[1], 60, d[2], d[3]), d[4]);
        }
        due(35, "too high", x.tower(0, 0, 1, 12001, 0, 0), NONE);
        due(35, "too low", x.tower(0, 0, 1, 0, 0, 0), NONE);
        due(35, "no such law", x.tower(1, 0, 1, 60, 0, 0), NONE);
        int[][] hands = {{0, 1, 2, 1, 3}, {0, 1, 2, 0, 1}, {0, 1, 2, 2, 0}, {1, 0, 2, 2, 3}, {0, 1, 1, 1, 1},
            {0, 0, 50, 0, 50}, {0, 0, 50, 1, 1225}, {0, 1, 50, 0, 49}, {0, 1, 50, 2, 1176}, {0, 1, 0, 0, NONE},
            {0, 1, 51, 0, NONE}, {0, 1, 2, 3, NONE}, {0, 1, 2, -1, NONE}, {0, 2, 2, 0, NONE}, {3, 0, 2, 0, NONE}};
        for (int[] h : hands) {
            due(36, "hands of " + h[0] + ", " + h[1], x.hands(0, h[0], h[1], 60, h[2], h[3]), h[4]);
        }
        due(36, "too high", x.hands(0, 0, 1, 12001, 2, 0), NONE);
        due(36, "no such law", x.hands(1, 0, 1, 60, 2, 0), NONE);
    }

    private static void drawn() {
        GrooveHouse x = furnished();
        x.beam(100, 22, 2);
        x.beam(100, 10, 0);
        x.beam(100, 17, 0);
        x.beam(50, 12, 9);
        Texts.law(x, "g:s-r");
        Texts.law(x, "g:s*s/7");
        Texts.law(x, "g:100-s*s/7;d:3");
        Texts.law(x, "g:s=10?9999;g:0");
        int[][] due = {{0, 0, 1, 3, 588, 528}, {0, 1, 0, 3, 588, 528}, {0, 0, 1, 0, 0, 0}, {1, 2, 3, 1, 14 + 347, 351},
            {2, 2, 3, 1, 86 - 347, -264}, {3, 0, 2, 1000, -439999956, -439999956 - 5005000}};
        for (int[] d : due) {
            due(37, "drawn on", x.drawn(d[0], 0, d[1], d[2], d[3], 0), d[4]);
            due(37, "less is falling", x.drawn(d[0], 0, d[1], d[2], d[3], 1), d[5]);
        }
        int[][] none = {{4, 0, 0, 1, 3, 0}, {0, 1, 0, 1, 3, 0}, {0, 0, 5, 1, 3, 0}, {0, 0, 0, 5, 3, 0}, {0, 0, 0, 0, 3, 0},
            {0, 0, 0, 4, 3, 0}, {0, 0, 0, 1, -1, 0}, {0, 0, 0, 1, 1001, 0}, {0, 0, 0, 1, 3, 2}, {0, 0, 0, 1, 3, -1}};
        for (int[] n : none) {
            due(37, "no such ones", x.drawn(n[0], n[1], n[2], n[3], n[4], n[5]), HIDDEN);
        }
    }

    private static void counts() {
        GrooveHouse x = furnished();
        due(38, "below", x.count(-1), NONE);
        due(38, "above", x.count(9), NONE);
        due(38, "balls", x.count(0), 1);
        due(38, "beams", x.count(1), 1);
        x.trial(0, 0, 0, 5, 0, 1, 0);
        due(38, "trials", x.count(4), 1);
        x.feed(0x67000000, 0, 0, 0, 0x3a);
        due(38, "bytes", x.count(8), 2);
    }

    public static void main(String[] args) {
        newObject();
        ballsAndBeams();
        tape();
        faults();
        lawsAndGuesses();
        ways();
        clicks();
        cups();
        untoldLetters();
        trials();
        truths();
        writings();
        values();
        fits();
        noPairBeyondThirty();
        parts();
        worlds();
        cheapest();
        pinnedAtFirst();
        strings();
        sheets();
        found();
        well();
        rolls();
        towers();
        drawn();
        counts();
        System.out.println(wrong == 0 ? "all promises hold" : wrong + " answers are not as due");
        if (wrong != 0) {
            System.exit(1);
        }
    }
}
