/** Promises 28, 32 to 37, 43, 61, 62, 64 and 65: time, snow and predictions. */
public final class SnowTest {
    private static final String BASE = "node a 0 0;node b 10 0;node c 10 10;"
            + "road ab a b 100 1;road bc b c 200 2;road ca c a 300 3 oneway;";
    private static final String SNOWY = BASE + "snow bc 50;fall 36;";
    private static final int[] NO_DEPTHS = {-1, 2001, Integer.MIN_VALUE, Integer.MAX_VALUE};
    private static final int[] NO_SECONDS = {-1, 1000001, Integer.MIN_VALUE, Integer.MAX_VALUE};
    private static final int[] NO_CLASSES = {0, 4, -1, Integer.MIN_VALUE, Integer.MAX_VALUE};
    private static final int[] NO_ARCS = {-1, 5, 24, Integer.MIN_VALUE, Integer.MAX_VALUE};

    public static void main(String[] args) {
        promises28And32();
        promise33();
        promises34To36();
        promise37();
        promise43();
        promise61();
        promise62();
        promises64And65();
        eachSecondCounts();
        cappedSnow();
        lateTimes();
        wrongArguments();
        withoutNodes();
        Check.end("SnowTest");
    }

    private static void promises28And32() {
        SnowPlough p = Check.loaded(SNOWY);
        Check.is("28", 0, p.time());
        Check.is("32", 36, p.fall());
        p.waitFor(7);
        Check.is("28 after waiting", 7, p.time());
        p.drive(0, false);
        Check.is("28 after driving", 107, p.time());
        p.undo();
        Check.is("28 after undo", 7, p.time());
        Check.is("32 without a statement", 0, Check.loaded(BASE).fall());
    }

    private static void promise33() {
        SnowPlough p = Check.loaded(SNOWY);
        Check.is("33 at first", 0, p.depth(0));
        Check.is("33 a road's first depth", 50, p.depth(2));
        Check.is("33 the other direction", 50, p.depth(3));
        p.waitFor(99);
        Check.is("33 rounded down", 0, p.depth(0));
        p.waitFor(1);
        Check.is("33 a millimetre", 1, p.depth(0));
        Check.is("33 a millimetre more", 51, p.depth(3));
        p.drive(0, false);
        Check.is("33 a driven arc", 0, p.depth(0));
        Check.is("33 its other direction", 2, p.depth(1));
        p.waitFor(99);
        Check.is("33 before the first millimetre", 0, p.depth(0));
        p.waitFor(1);
        Check.is("33 from the base time on", 1, p.depth(0));
    }

    private static void promises34To36() {
        SnowPlough p = Check.loaded(SNOWY);
        Check.is("34 equals", 0, p.deepestArc(1));
        Check.is("34 the deepest", 2, p.deepestArc(2));
        Check.is("34 among all", 2, p.deepestArc(3));
        Check.is("34 none", -1, Check.loaded("node a 0 0;node b 1 0;road x a b 1 3;").deepestArc(2));
        Check.is("34 without snow", 0, Check.loaded(BASE).deepestArc(3));
        Check.is("35 more than 0", 12, p.deepArcs(0));
        Check.is("35 more than 49", 12, p.deepArcs(49));
        Check.is("35 more than 50", 0, p.deepArcs(50));
        Check.is("35 more than 2000", 0, p.deepArcs(2000));
        Check.is("36", 20000, p.totalSnow());
        p.waitFor(1000);
        Check.is("35 all", 31, p.deepArcs(9));
        Check.is("36 later", 20000 + 10 * 900, p.totalSnow());
        p.drive(0, false);
        Check.is("34 the undriven one", 1, p.deepestArc(1));
        Check.is("35 but the driven one", 30, p.deepArcs(9));
        Check.is("36 the most", 24L * 999 * 2000, mostSnow());
    }

    private static long mostSnow() {
        StringBuilder text = new StringBuilder("node a 0 0;node b 1 0;fall 99;");
        for (int i = 0; i < 12; i++) {
            text.append("road ").append((char) ('a' + i)).append(" a b 999 1;");
        }
        SnowPlough p = Check.loaded(text.toString());
        p.waitFor(86400);
        return p.totalSnow();
    }

    private static void promise37() {
        SnowPlough p = Check.loaded(SNOWY);
        Check.is("37 at once", 0, p.secondsToDepth(2, 50));
        Check.is("37 depth 0", 0, p.secondsToDepth(0, 0));
        Check.is("37 the next millimetre", 100, p.secondsToDepth(2, 51));
        Check.is("37 the greatest depth", 195000, p.secondsToDepth(2, 2000));
        p.waitFor(30);
        Check.is("37 from now on", 70, p.secondsToDepth(0, 1));
        Check.is("37 a ceiling", 515, secondsAt(7, 1, 0));
        Check.is("37 within the limit", 800000, secondsAt(9, 2000, 0));
        Check.is("37 the last second", 1000000, secondsAt(6, 1667, 200));
        Check.is("37 a second too late", -1, secondsAt(6, 1667, 199));
        Check.is("37 much too late", -1, secondsAt(1, 2000, 0));
        Check.is("37 no snow falls", -1, Check.loaded(BASE).secondsToDepth(0, 1));
        Check.is("37 no snow falls, but it is there", 0, Check.loaded(BASE + "snow ab 9;").secondsToDepth(0, 9));
        SnowPlough q = Check.loaded(SNOWY);
        q.drive(0, true);
        Check.is("37 salt", 1900, q.secondsToDepth(0, 1));
        q.waitFor(1000);
        Check.is("37 salt later", 900, q.secondsToDepth(0, 1));
    }

    private static int secondsAt(int rate, int depth, int time) {
        SnowPlough p = Check.loaded(BASE + "fall " + rate + ";");
        p.waitFor(time);
        return p.secondsToDepth(0, depth);
    }

    private static void promise43() {
        SnowPlough p = Check.loaded(SNOWY);
        p.waitFor(150);
        Check.is("43 the previous rate", 36, p.setFall(72));
        Check.is("32 the new rate", 72, p.fall());
        Check.is("33 the depth is kept, rounded down", 1, p.depth(0));
        p.waitFor(49);
        Check.is("33 the half millimetre is lost", 1, p.depth(0));
        p.waitFor(1);
        Check.is("33 the new rate counts", 2, p.depth(0));
        Check.is("43 no change", 72, p.setFall(72));
        Check.is("51 no change cannot be undone", 5, p.undoCount());
        p.setFall(0);
        p.waitFor(50000);
        Check.is("33 no snow falls", 52, p.depth(3));
        Check.is("43 from none", 0, p.setFall(99));
        SnowPlough q = Check.loaded(SNOWY);
        q.waitFor(50);
        q.setFall(36);
        q.waitFor(50);
        Check.is("43 the same rate changes no base time", 1, q.depth(0));
        SnowPlough r = Check.loaded(SNOWY);
        r.drive(0, true);
        r.setFall(99);
        r.setFall(36);
        Check.is("43 a later base time stays", 1900, r.secondsToDepth(0, 1));
        for (int rate : new int[] {-1, 100, Integer.MIN_VALUE, Integer.MAX_VALUE}) {
            Check.noArgument("43 rate " + rate, () -> r.setFall(rate));
        }
        Check.is("43 without nodes", 0, new SnowPlough().setFall(5));
    }

    private static void promise61() {
        SnowPlough p = Check.loaded(SNOWY);
        Check.is("61 now", 50, p.depthAfter(2, 0));
        Check.is("61 later", 59, p.depthAfter(2, 999));
        Check.is("61 later", 60, p.depthAfter(2, 1000));
        Check.is("61 at last", 2000, p.depthAfter(2, 1000000));
        p.waitFor(50);
        Check.is("61 from now on", 1, p.depthAfter(0, 50));
        p.drive(0, true);
        Check.is("61 salted", 0, p.depthAfter(0, 1899));
        Check.is("61 behind the salt", 1, p.depthAfter(0, 1900));
        Check.is("28 nothing changes", 150, p.time());
    }

    private static void promise62() {
        SnowPlough p = Check.loaded(SNOWY);
        Check.is("62 class 1", 100, p.secondsToFirstDepth(1, 1));
        Check.is("62 class 2", 0, p.secondsToFirstDepth(2, 50));
        Check.is("62 class 3", 1000, p.secondsToFirstDepth(3, 60));
        Check.is("62 depth 0", 0, p.secondsToFirstDepth(1, 0));
        Check.is("62 no arcs", -1, Check.loaded("node a 0 0;node b 1 0;road x a b 1 3;fall 9;").secondsToFirstDepth(2, 0));
        Check.is("62 never", -1, Check.loaded(BASE).secondsToFirstDepth(3, 1));
        Check.noArgument("62 both are wrong", () -> p.secondsToFirstDepth(0, -1));
    }

    private static void promises64And65() {
        SnowPlough p = Check.loaded(SNOWY);
        Check.is("64 class 1", 0, p.meanDepth(1));
        Check.is("64 class 2", 25, p.meanDepth(2));
        Check.is("64 rounded down", 20, p.meanDepth(3));
        p.waitFor(100);
        p.drive(0, false);
        Check.is("64 arcs 0 and 2", 1, p.meanDepth(1));
        Check.is("64 five arcs", (0 + 2 + 52 + 52 + 2) / 5, p.meanDepth(3));
        Check.is("64 none", -1, Check.loaded("node a 0 0;node b 1 0;road x a b 1 3;").meanDepth(2));
        Check.is("65 class 1", 1, p.deepestArcAfter(1, 0));
        Check.is("65 class 2", 2, p.deepestArcAfter(2, 5));
        Check.is("65 all are full", 0, p.deepestArcAfter(3, 1000000));
        Check.is("65 none", -1, Check.loaded("node a 0 0;node b 1 0;road x a b 1 3;").deepestArcAfter(2, 0));
        SnowPlough q = Check.loaded("node a 0 0;node b 1 0;road x a b 50 1;fall 36;");
        q.drive(0, false);
        q.drive(1, false);
        // Arc 0 has been clean since 50, arc 1 since 120.
        Check.is("65 equal now", 0, q.deepestArcAfter(1, 0));
        Check.is("65 equal later", 0, q.deepestArcAfter(1, 29));
        Check.is("65 unequal later", 0, q.deepestArcAfter(1, 30));
        q.drive(0, true);
        Check.is("65 the salted one has none", 1, q.deepestArcAfter(1, 100));
        Check.is("65 equal now", 0, q.deepestArcAfter(1, 0));
    }

    private static void eachSecondCounts() {
        SnowPlough p = Check.loaded("node a 0 0;node b 1 0;road x a b 50 1;fall 36;");
        p.drive(0, false);
        p.waitFor(49);
        Check.is("34 a second before", 0, p.deepestArc(1));
        Check.is("35 a second before", 0, p.deepArcs(0));
        Check.is("36 a second before", 0, p.totalSnow());
        Check.is("37 a second before", 1, p.secondsToDepth(1, 1));
        Check.is("64 a second before", 0, p.meanDepth(1));
        Check.is("65 a second later", 1, p.deepestArcAfter(1, 1));
        p.waitFor(1);
        Check.is("34 then", 1, p.deepestArc(1));
        Check.is("35 then", 2, p.deepArcs(0));
        Check.is("36 then", 50, p.totalSnow());
        Check.is("37 then", 0, p.secondsToDepth(1, 1));
    }

    private static void cappedSnow() {
        SnowPlough p = Check.loaded(BASE + "snow ab 999;fall 99;");
        for (int i = 0; i < 11; i++) {
            p.waitFor(86400);
        }
        Check.is("33 at most 2000", 2000, p.depth(0));
        Check.is("35 not more than 2000", 0, p.deepArcs(2000));
        Check.is("35 more than 1999", 31, p.deepArcs(1999));
        p.setFall(0);
        Check.is("43 the capped depth stays", 2000, p.depth(0));
        Check.is("38 in deep snow", 100 + 2000, p.driveTime(0));
    }

    /** Driving may carry the time beyond each limit of waiting. */
    private static void lateTimes() {
        SnowPlough p = Check.loaded("node a 0 0;node b 1 0;road x a b 999 1;snow x 999;fall 99;turns 99 99 99 99;");
        for (int i = 0; i < 11; i++) {
            p.waitFor(86400);
        }
        for (int i = 0; i < 400; i++) {
            p.drive(i % 2, false);
        }
        Check.is("28 far behind the limit", true, p.time() > 1500000);
        Check.noState("41 behind the limit", () -> p.waitFor(0));
        Check.is("61 far behind", 2000, p.depthAfter(0, 1000000));
        p.setFall(1);
        Check.is("37 far behind", -1, p.secondsToDepth(0, 2000));
    }

    private static void wrongArguments() {
        SnowPlough p = Check.loaded(SNOWY);
        for (int arc : NO_ARCS) {
            Check.noIndex("33 arc " + arc, () -> p.depth(arc));
            Check.noIndex("37 arc " + arc, () -> p.secondsToDepth(arc, -1));
            Check.noIndex("61 arc " + arc, () -> p.depthAfter(arc, -1));
        }
        for (int depth : NO_DEPTHS) {
            Check.noArgument("35 " + depth, () -> p.deepArcs(depth));
            Check.noArgument("37 " + depth, () -> p.secondsToDepth(0, depth));
            Check.noArgument("62 " + depth, () -> p.secondsToFirstDepth(1, depth));
        }
        for (int seconds : NO_SECONDS) {
            Check.noArgument("61 " + seconds, () -> p.depthAfter(0, seconds));
            Check.noArgument("65 " + seconds, () -> p.deepestArcAfter(1, seconds));
        }
        for (int c : NO_CLASSES) {
            Check.noArgument("34 " + c, () -> p.deepestArc(c));
            Check.noArgument("62 " + c, () -> p.secondsToFirstDepth(c, 0));
            Check.noArgument("64 " + c, () -> p.meanDepth(c));
            Check.noArgument("65 " + c, () -> p.deepestArcAfter(c, 0));
        }
    }

    private static void withoutNodes() {
        SnowPlough p = new SnowPlough();
        Check.noIndex("33 without nodes", () -> p.depth(0));
        Check.is("34 without nodes", -1, p.deepestArc(3));
        Check.is("35 without nodes", 0, p.deepArcs(0));
        Check.is("36 without nodes", 0, p.totalSnow());
        Check.noIndex("37 without nodes", () -> p.secondsToDepth(0, 0));
        Check.is("62 without nodes", -1, p.secondsToFirstDepth(3, 0));
        Check.is("64 without nodes", -1, p.meanDepth(3));
        Check.is("65 without nodes", -1, p.deepestArcAfter(3, 0));
    }
}
