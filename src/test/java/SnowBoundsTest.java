/** Section 5 and the promises on snow and time, sentence by sentence: each rounding, each bound, each second. */
public final class SnowBoundsTest {
    private static final String TWO = "node a 0 0;node b 1 0;";
    private static final String ROAD = TWO + "road r a b 100 1;";

    public static void main(String[] args) {
        roundedDown();
        atMost2000();
        baseTimes();
        saltedSeconds();
        changedRates();
        changedWhileSalted();
        cappedThenChanged();
        promise34();
        promise35();
        promise36();
        promise37();
        promise37WithSalt();
        promise62();
        promise64();
        promises61And65();
        promise43();
        Check.end("SnowBoundsTest");
    }

    private static SnowPlough at(int seconds, String text) {
        SnowPlough p = Check.loaded(text);
        for (int rest = seconds; rest > 0; rest -= 86400) {
            p.waitFor(Math.min(rest, 86400));
        }
        return p;
    }

    /** 'base depth + fall * max(0, t - base time) / 3600, rounded down' */
    private static void roundedDown() {
        int[][] depths = {{1, 0, 0}, {1, 3599, 0}, {1, 3600, 1}, {1, 3601, 1}, {1, 7199, 1}, {1, 7200, 2}, {99, 36, 0},
                {99, 37, 1}, {99, 72, 1}, {99, 73, 2}, {99, 3599, 98}, {99, 3600, 99}, {36, 99, 0}, {36, 100, 1},
                {7, 514, 0}, {7, 515, 1}, {1, 1000000, 277}, {2, 1000000, 555}, {0, 1000000, 0}};
        for (int[] d : depths) {
            SnowPlough p = Check.loaded(ROAD + "fall " + d[0] + ";");
            Check.is("61 fall " + d[0] + " for " + d[1], d[2], p.depthAfter(0, d[1]));
            Check.is("33 fall " + d[0] + " for " + d[1], d[2], at(d[1], ROAD + "fall " + d[0] + ";").depth(0));
            SnowPlough q = Check.loaded(ROAD + "snow r 40;fall " + d[0] + ";");
            Check.is("61 on 40", 40 + d[2], q.depthAfter(1, d[1]));
        }
    }

    /** 'but at most 2000': 999 and 1001 more at 99 an hour take 36400 seconds to the second. */
    private static void atMost2000() {
        String text = ROAD + "snow r 999;fall 99;";
        int[][] depths = {{36363, 1998}, {36364, 1999}, {36399, 1999}, {36400, 2000}, {36401, 2000}, {36437, 2000},
                {86400, 2000}, {1000000, 2000}};
        for (int[] d : depths) {
            Check.is("61 after " + d[0], d[1], Check.loaded(text).depthAfter(0, d[0]));
            SnowPlough p = at(d[0], text);
            Check.is("33 at " + d[0], d[1], p.depth(0));
            Check.is("36 at " + d[0], 2 * 100 * d[1], p.totalSnow());
            Check.is("35 at " + d[0], d[1] > 1999 ? 3 : 0, p.deepArcs(1999));
            Check.is("35 at " + d[0], 0, p.deepArcs(2000));
            Check.is("64 at " + d[0], d[1], p.meanDepth(1));
            Check.is("38 at " + d[0], 100 + d[1], p.driveTime(0));
            Check.is("54 at " + d[0], d[1] > 1999 ? 0 : -1, p.nearestDeepArc(1999));
            Check.is("54 at " + d[0], -1, p.nearestDeepArc(2000));
        }
    }

    /** 'At first the base depth is the initial depth of the road and the base time is 0'; driving changes both. */
    private static void baseTimes() {
        SnowPlough p = at(199, ROAD + "snow r 3;fall 36;");
        Check.is("33 since 0", 4, p.depth(0));
        Check.is("39 4 deep", 104, p.drive(0, false));
        Check.is("33 cleared", 0, p.depth(0));
        Check.is("33 not the other one", 6, p.depth(1));
        Check.is("61 a second before", 0, p.depthAfter(0, 99));
        Check.is("61 since the drive's end", 1, p.depthAfter(0, 100));
        p.waitFor(99);
        Check.is("33 a second before", 0, p.depth(0));
        p.waitFor(1);
        Check.is("33 since the drive's end", 1, p.depth(0));
    }

    /** 'and the base time is 1800 seconds later: no snow settles until then' */
    private static void saltedSeconds() {
        for (int wait : new int[] {0, 1, 1799, 1800, 1801, 1899, 1900, 1999, 2000}) {
            SnowPlough p = Check.loaded(ROAD + "fall 36;");
            p.drive(0, true);
            p.waitFor(wait);
            int due = Math.max(0, wait - 1800) / 100;
            Check.is("33 salted for " + wait, due, p.depth(0));
            Check.is("61 salted for " + wait, due, p.depthAfter(0, 0));
            Check.is("61 a second later", Math.max(0, wait - 1799) / 100, p.depthAfter(0, 1));
            Check.is("37 salted for " + wait, Math.max(0, 1900 - wait), p.secondsToDepth(0, 1));
            Check.is("37 depth 0", 0, p.secondsToDepth(0, 0));
            SnowPlough q = Check.loaded(ROAD + "fall 36;");
            q.drive(0, false);
            q.waitFor(wait);
            Check.is("33 not salted for " + wait, wait / 100, q.depth(0));
        }
    }

    /** 'the base depth of each arc first becomes its present depth', without the part of a millimetre. */
    private static void changedRates() {
        for (int time : new int[] {100, 101, 150, 198, 199, 200}) {
            SnowPlough p = at(time, ROAD + "fall 36;");
            p.setFall(72);
            int depth = time / 100;
            Check.is("33 at " + time, depth, p.depth(0));
            Check.is("61 at " + time, depth, p.depthAfter(0, 49));
            Check.is("61 at " + time, depth + 1, p.depthAfter(0, 50));
            Check.is("37 at " + time, 50, p.secondsToDepth(1, depth + 1));
        }
        SnowPlough p = at(199, ROAD + "fall 36;");
        p.setFall(0);
        Check.is("37 none falls", -1, p.secondsToDepth(0, 2));
        Check.is("61 none falls", 1, p.depthAfter(0, 1000000));
        p.setFall(36);
        Check.is("37 there and back at the same second", 100, p.secondsToDepth(0, 2));
        p.setFall(36);
        p.waitFor(50);
        p.setFall(36);
        Check.is("37 the present rate is no change", 50, p.secondsToDepth(0, 2));
        SnowPlough q = Check.loaded(ROAD + "fall 36;");
        q.setFall(1);
        Check.is("37 at time 0", 3600, q.secondsToDepth(0, 1));
    }

    /** 'and its base time the present time if this is later than the base time', which is 1900 here. */
    private static void changedWhileSalted() {
        int[][] cases = {{0, 1850}, {1799, 51}, {1800, 50}, {1801, 50}, {1850, 50}, {1899, 50}, {1900, 50}};
        for (int[] c : cases) {
            SnowPlough p = Check.loaded(ROAD + "fall 36;");
            p.drive(0, true);
            p.waitFor(c[0]);
            int depth = p.depth(0);
            p.setFall(72);
            Check.is("33 changed " + c[0] + " behind the salt", depth, p.depth(0));
            Check.is("37 changed " + c[0] + " behind the salt", c[1], p.secondsToDepth(0, depth + 1));
            Check.is("37 the other arc", 50, p.secondsToDepth(1, p.depth(1) + 1));
        }
        SnowPlough p = Check.loaded(ROAD + "fall 36;");
        p.drive(0, true);
        p.setFall(0);
        p.waitFor(1850);
        p.setFall(36);
        Check.is("37 the salt is over when it falls again", 100, p.secondsToDepth(0, 1));
    }

    private static void cappedThenChanged() {
        SnowPlough p = at(86400, ROAD + "snow r 999;fall 99;");
        p.setFall(1);
        Check.is("33 capped", 2000, p.depth(0));
        Check.is("37 it is there", 0, p.secondsToDepth(0, 2000));
        p.setFall(0);
        Check.is("33 it stays", 2000, p.depth(0));
        Check.is("37 it is there", 0, p.secondsToDepth(0, 2000));
        Check.is("39", 2100, p.drive(0, false));
        Check.is("33 cleared", 0, p.depth(0));
        Check.is("37 none falls", -1, p.secondsToDepth(0, 1));
    }

    private static void promise34() {
        String three = TWO + "road p a b 1 2 oneway;road q a b 1 1 oneway;road s b a 1 3 oneway;";
        SnowPlough p = Check.loaded(three + "snow p 5;snow q 4;snow s 6;");
        Check.is("34 class 1", 2, p.deepestArc(1));
        Check.is("34 class 2", 0, p.deepestArc(2));
        Check.is("34 class 3", 4, p.deepestArc(3));
        SnowPlough q = Check.loaded(three + "snow p 5;snow q 5;snow s 5;");
        Check.is("34 equals, class 2", 0, q.deepestArc(2));
        Check.is("34 equals, class 3", 0, q.deepestArc(3));
        Check.is("34 no depth at all", 0, Check.loaded(three).deepestArc(3));
        SnowPlough r = Check.loaded(three + "snow q 1;snow s 1;");
        Check.is("34 the lowest of the deepest", 2, r.deepestArc(3));
        Check.is("34 no required arcs", -1, Check.loaded(TWO + "road p a b 1 3;snow p 9;").deepestArc(2));
    }

    private static void promise35() {
        SnowPlough p = Check.loaded(TWO + "road p a b 1 2 oneway;road q a b 1 1;road s b a 1 3;snow p 1;snow q 2;snow s 3;");
        Check.is("35 more than 0", 0b111101, p.deepArcs(0));
        Check.is("35 more than 1", 0b111100, p.deepArcs(1));
        Check.is("35 more than 2", 0b110000, p.deepArcs(2));
        Check.is("35 more than 3", 0, p.deepArcs(3));
        Check.is("35 more than 1999", 0, p.deepArcs(1999));
        Check.is("35 more than 2000", 0, p.deepArcs(2000));
        Check.is("35 no snow", 0, Check.loaded(ROAD).deepArcs(0));
    }

    private static void promise36() {
        Check.is("36 oneway once", 3 * 7, Check.loaded(TWO + "road p a b 3 2 oneway;snow p 7;").totalSnow());
        Check.is("36 both ways", 2 * 3 * 7, Check.loaded(TWO + "road p a b 3 3;snow p 7;").totalSnow());
        Check.is("36 rounded before, not behind", 0, at(99, ROAD + "fall 36;").totalSnow());
        Check.is("36 a second later", 200, at(100, ROAD + "fall 36;").totalSnow());
    }

    private static int secondsAt(int time, int rate, int depth) {
        return at(time, ROAD + "fall " + rate + ";").secondsToDepth(0, depth);
    }

    /** 'the smallest number of seconds from now, 0 to 1000000, after which the depth is at least depth' */
    private static void promise37() {
        int[][] cases = {{0, 1, 1, 3600}, {0, 1, 0, 0}, {3599, 1, 1, 1}, {3600, 1, 1, 0}, {3601, 1, 1, 0}, {3600, 1, 2, 3600},
                {0, 7, 1, 515}, {0, 7, 2, 1029}, {0, 7, 3, 1543}, {0, 7, 4, 2058}, {0, 7, 7, 3600}, {0, 99, 1, 37},
                {0, 99, 2000, 72728}, {0, 7, 1944, 999772}, {0, 7, 1945, -1}, {285, 7, 1945, -1}, {286, 7, 1945, 1000000},
                {0, 8, 2000, 900000}, {0, 9, 2000, 800000}, {0, 36, 2000, 200000}, {0, 1, 277, 997200}, {0, 1, 278, -1},
                {799, 1, 278, -1}, {800, 1, 278, 1000000}, {801, 1, 278, 999999}, {0, 0, 0, 0}, {0, 0, 1, -1},
                {86400, 0, 1, -1}, {0, 0, 2000, -1}, {200000, 36, 2000, 0}, {199999, 36, 2000, 1}, {300000, 36, 2000, 0}};
        for (int[] c : cases) {
            Check.is("37 at " + c[0] + ", fall " + c[1] + ", depth " + c[2], c[3], secondsAt(c[0], c[1], c[2]));
        }
        SnowPlough p = Check.loaded(ROAD + "snow r 50;fall 36;");
        Check.is("37 less than there is", 0, p.secondsToDepth(0, 49));
        Check.is("37 as much as there is", 0, p.secondsToDepth(0, 50));
        Check.is("37 more than there is", 100, p.secondsToDepth(1, 51));
        SnowPlough q = Check.loaded(ROAD + "snow r 50;");
        Check.is("37 no fall, as much as there is", 0, q.secondsToDepth(0, 50));
        Check.is("37 no fall, more than there is", -1, q.secondsToDepth(0, 51));
        agrees(p);
        agrees(at(77, ROAD + "snow r 3;fall 7;"));
    }

    /** After these seconds the depth is there, and a second before it is not. */
    private static void agrees(SnowPlough p) {
        for (int depth = p.depth(0) + 1; depth < p.depth(0) + 40; depth++) {
            int seconds = p.secondsToDepth(0, depth);
            Check.is("37 and 61, depth " + depth, depth, p.depthAfter(0, seconds));
            Check.is("37 and 61, before depth " + depth, depth - 1, p.depthAfter(0, seconds - 1));
        }
    }

    private static void promise37WithSalt() {
        SnowPlough p = Check.loaded(ROAD + "fall 6;");
        p.drive(0, true);
        // The base time is 1800 seconds from now, a millimetre takes 600.
        Check.is("37 within the limit", 999600, p.secondsToDepth(0, 1663));
        Check.is("37 behind the limit", -1, p.secondsToDepth(0, 1664));
        p.waitFor(199);
        Check.is("37 a second behind it", -1, p.secondsToDepth(0, 1664));
        p.waitFor(1);
        Check.is("37 the last second", 1000000, p.secondsToDepth(0, 1664));
        p.waitFor(1);
        Check.is("37 a second before it", 999999, p.secondsToDepth(0, 1664));
        Check.is("37 the other arc, since 0", 299, p.secondsToDepth(1, 1));
    }

    private static void promise62() {
        String three = TWO + "road p a b 1 3 oneway;road q a b 1 2 oneway;road s b a 1 1 oneway;snow p 999;snow q 50;fall 1;";
        SnowPlough p = Check.loaded(three);
        Check.is("62 class 1", 3600, p.secondsToFirstDepth(1, 1));
        Check.is("62 class 1 does not know the others", 50 * 3600, p.secondsToFirstDepth(1, 50));
        Check.is("62 class 2", 0, p.secondsToFirstDepth(2, 50));
        Check.is("62 class 2", 3600, p.secondsToFirstDepth(2, 51));
        Check.is("62 class 3", 0, p.secondsToFirstDepth(3, 999));
        Check.is("62 others never get there", 3600, p.secondsToFirstDepth(3, 1000));
        Check.is("62 none gets there", -1, p.secondsToFirstDepth(2, 1000));
        Check.is("62 within 1000000", 277 * 3600, p.secondsToFirstDepth(3, 1276));
        Check.is("62 not within 1000000", -1, p.secondsToFirstDepth(3, 1277));
        Check.is("62 depth 0", 0, p.secondsToFirstDepth(1, 0));
        Check.is("62 depth 2000", -1, p.secondsToFirstDepth(3, 2000));
        Check.is("62 the highest arc is first", 0, Check.loaded(TWO + "road p a b 1 1;road q a b 1 1;snow q 9;")
                .secondsToFirstDepth(1, 9));
        Check.is("62 no required arcs", -1, Check.loaded(TWO + "road p a b 1 3;snow p 9;").secondsToFirstDepth(2, 0));
    }

    /** 'divided by their number, rounded down' */
    private static void promise64() {
        int[][] cases = {{0, 0, 0, 0}, {1, 1, 0, 0}, {1, 1, 1, 1}, {2, 2, 1, 1}, {2, 2, 2, 2}, {0, 0, 2, 0}, {0, 0, 3, 1},
                {999, 999, 999, 999}, {999, 999, 998, 998}, {5, 0, 0, 1}};
        for (int[] c : cases) {
            SnowPlough p = Check.loaded(TWO + "road p a b 1 1 oneway;road q a b 1 2 oneway;road s b a 1 3 oneway;"
                    + "snow p " + c[0] + ";snow q " + c[1] + ";snow s " + c[2] + ";");
            Check.is("64 of " + c[0] + " " + c[1] + " " + c[2], c[3], p.meanDepth(3));
            Check.is("64 of " + c[0] + " " + c[1], (c[0] + c[1]) / 2, p.meanDepth(2));
            Check.is("64 of " + c[0], c[0], p.meanDepth(1));
        }
        Check.is("64 a second before", 0, at(99, ROAD + "fall 36;").meanDepth(1));
        Check.is("64 then", 1, at(100, ROAD + "fall 36;").meanDepth(1));
        Check.is("64 a second later", 1, at(101, ROAD + "fall 36;").meanDepth(1));
        Check.is("64 no required arcs", -1, Check.loaded(TWO + "road p a b 1 2;snow p 9;").meanDepth(1));
    }

    private static void promises61And65() {
        SnowPlough p = Check.loaded(TWO + "road p a b 100 2 oneway;road q a b 100 1;snow p 990;fall 36;");
        Check.is("61 no seconds", 990, p.depthAfter(0, 0));
        Check.is("61 one", 990, p.depthAfter(0, 1));
        Check.is("61 the most", 2000, p.depthAfter(0, 1000000));
        Check.is("65 class 1", 2, p.deepestArcAfter(1, 0));
        Check.is("65 class 2", 0, p.deepestArcAfter(2, 0));
        Check.is("65 at the end all are equal", 0, p.deepestArcAfter(2, 1000000));
        p.drive(0, true);
        // Arc 0 has snow from 1900 on, arcs 2 and 3 have it since 0: they are full at 200000, it is at 201900.
        Check.is("65 now", 2, p.deepestArcAfter(2, 0));
        Check.is("65 a second before it is full", 2, p.deepestArcAfter(2, 201799));
        Check.is("65 when it is full", 0, p.deepestArcAfter(2, 201800));
        Check.is("65 as late as can be", 0, p.deepestArcAfter(2, 1000000));
        Check.is("61 a second before it is full", 1999, p.depthAfter(0, 201799));
        Check.is("61 when it is full", 2000, p.depthAfter(0, 201800));
        Check.is("65 no required arcs", -1, Check.loaded(TWO + "road p a b 1 2;").deepestArcAfter(1, 1000000));
        SnowPlough late = at(1000000, ROAD + "fall 1;");
        Check.is("61 seconds from now, not from 0", 555, late.depthAfter(0, 1000000));
        Check.is("33 now", 277, late.depth(0));
    }

    private static void promise43() {
        SnowPlough p = Check.loaded(ROAD);
        Check.is("43 the most", 0, p.setFall(99));
        Check.is("32", 99, p.fall());
        Check.is("43 the least", 99, p.setFall(0));
        Check.is("43 one", 0, p.setFall(1));
        Check.is("43 the most again", 1, p.setFall(99));
        Check.same("52 the present rate", true, Check.output(p).endsWith("fall 99;"));
        p.setFall(0);
        Check.same("52 the present rate", true, Check.output(p).endsWith("fall 0;"));
        SnowPlough empty = new SnowPlough();
        Check.is("43 without nodes", 0, empty.setFall(99));
        Check.is("32 without nodes", 99, empty.fall());
        Check.same("52 without nodes", true, Check.output(empty).endsWith("fall 99;"));
    }
}
