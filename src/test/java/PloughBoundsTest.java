/** Section 6 and the promises on the plough, its time, its salt and its counters, sentence by sentence. */
public final class PloughBoundsTest {
    private static final String TWO = "node a 0 0;node b 1 0;";
    private static final String ROAD = TWO + "road r a b 100 1;";
    private static final int[] NO_KINDS = {0, 0, 0, 0};

    public static void main(String[] args) {
        atFirst();
        roundedTimes();
        depthWhenItBegins();
        turnsCost();
        whatADriveChanges();
        saltRounded();
        justEnoughSalt();
        ratesOfClasses();
        driveTo();
        driveToAndPathTime();
        waiting();
        behindTheLastSecond();
        refilling();
        counters();
        sinceLoad();
        nearestDeepArc();
        output();
        fiveHundredAndTwelveCalls();
        Check.end("PloughBoundsTest");
    }

    /** 'at first at the depot, with a full load of salt and without a last arc' */
    private static void atFirst() {
        SnowPlough p = Check.loaded(ROAD + "depot b;salt 9999;");
        Check.is("29", 1, p.position());
        Check.is("30", -1, p.lastArc());
        Check.is("31", 9999, p.saltLeft());
        Check.is("28", 0, p.time());
        Check.is("38 no turn at first", 100, p.driveTime(1));
        Check.is("29 a node without roads", 0, Check.loaded("node a 0 0;").position());
        Check.is("31 no capacity", 0, Check.loaded("node a 0 0;salt 0;").saltLeft());
        SnowPlough q = new SnowPlough();
        Check.is("29 without nodes", -1, q.position());
        Check.is("30 without nodes", -1, q.lastArc());
        Check.is("31 without nodes", 500, q.saltLeft());
    }

    /** 'length + length * d / 100, rounded down' */
    private static void roundedTimes() {
        int[][] cases = {{1, 0, 1}, {1, 99, 1}, {1, 100, 2}, {1, 199, 2}, {1, 200, 3}, {999, 999, 999 + 9980}, {99, 1, 99},
                {100, 1, 101}, {101, 1, 102}, {50, 1, 50}, {50, 2, 51}, {33, 3, 33}, {34, 3, 35}, {999, 1, 1008}};
        for (int[] c : cases) {
            SnowPlough p = Check.loaded(TWO + "road r a b " + c[0] + " 1;snow r " + c[1] + ";");
            Check.is("38 " + c[0] + " in " + c[1], c[2], p.driveTime(0));
            Check.is("63 " + c[0] + " in " + c[1], c[2], p.pathTime(1));
            Check.is("39 " + c[0] + " in " + c[1], c[2], p.drive(0, false));
            Check.is("28 " + c[0] + " in " + c[1], c[2], p.time());
        }
    }

    /** 'd is the depth of the snow on the arc when the plough begins to drive (before the turn)' */
    private static void depthWhenItBegins() {
        for (int wait : new int[] {0, 79, 80, 98, 99, 100, 101, 198, 199, 200}) {
            SnowPlough p = Check.loaded(ROAD + "fall 36;");
            p.drive(0, false);
            p.waitFor(wait);
            int due = 20 + 100 + (100 + wait) / 100;
            Check.is("38 a U-turn after " + wait, due, p.driveTime(1));
            Check.is("63 a U-turn after " + wait, due, p.pathTime(0));
            Check.is("39 a U-turn after " + wait, due, p.drive(1, false));
        }
    }

    /** 'the cost of the turn from the last arc (0 without one)' */
    private static void turnsCost() {
        String text = "node a 50 0;node b 50 10;node c 50 20;node d 60 10;node e 40 10;road r a b 10 1;road s b c 10 1;"
                + "road t b d 10 1;road u b e 10 1;turns 1 20 30 99;";
        int[][] cases = {{2, 0, 1}, {4, 1, 20}, {6, 2, 30}, {1, 3, 99}};
        for (int[] c : cases) {
            SnowPlough p = Check.loaded(text);
            Check.is("38 no last arc", 10, p.driveTime(0));
            Check.is("39 no last arc", 10, p.drive(0, false));
            Check.is("38 kind " + c[1], 10 + c[2], p.driveTime(c[0]));
            Check.is("46 predicted, not made", 0, p.turnsMade(c[1]));
            Check.is("39 kind " + c[1], 10 + c[2], p.drive(c[0], false));
            for (int kind = 0; kind < 4; kind++) {
                Check.is("46 kind " + kind, kind == c[1] ? 1 : 0, p.turnsMade(kind));
            }
            p.undo();
            p.undo();
            Check.is("38 no last arc again", 10, p.driveTime(0));
            Check.is("30 no last arc again", -1, p.lastArc());
        }
        SnowPlough q = Check.loaded(text + "depot b;");
        for (int arc : new int[] {1, 2, 4, 6}) {
            Check.is("38 none costs a turn at first", 10, q.driveTime(arc));
        }
    }

    private static void whatADriveChanges() {
        SnowPlough p = Check.loaded(ROAD + "road s b a 30 2;snow r 9;snow s 8;");
        Check.is("39", 109, p.drive(0, true));
        Check.is("33 its arc", 0, p.depth(0));
        Check.is("33 the other direction", 9, p.depth(1));
        Check.is("33 the other road", 8, p.depth(2));
        Check.is("29", 1, p.position());
        Check.is("30", 0, p.lastArc());
        Check.is("31", 480, p.saltLeft());
        Check.is("44", 20, p.saltUsed());
        Check.is("45", 100, p.distance());
        Check.is("47", 1, p.passes(0));
        Check.is("47 not the other direction", 0, p.passes(1));
        Check.is("48", 0b1110, p.untouched(2));
        Check.is("48", 0b10, p.untouched(1));
        Check.is("51", 2, p.undoCount());
    }

    /** 'length * rate / 100, rounded down': the salt that an arc needs. */
    private static void saltRounded() {
        int[][] cases = {{1, 99, 0}, {2, 50, 1}, {99, 1, 0}, {100, 1, 1}, {199, 50, 99}, {999, 99, 989}, {999, 0, 0},
                {101, 1, 1}, {5, 20, 1}, {4, 20, 0}, {7, 43, 3}};
        for (int[] c : cases) {
            SnowPlough p = Check.loaded(TWO + "road r a b " + c[0] + " 2;spread 3 " + c[1] + " 4;salt 1000;");
            Check.is("59 " + c[0] + " at " + c[1], 2 * c[2], p.saltNeeded(2));
            Check.is("59 not required", 0, p.saltNeeded(1));
            p.drive(0, true);
            Check.is("31 " + c[0] + " at " + c[1], 1000 - c[2], p.saltLeft());
            Check.is("44 " + c[0] + " at " + c[1], c[2], p.saltUsed());
        }
    }

    /** 'and the load is at least' what the arc needs: 'Otherwise no salt is used.' */
    private static void justEnoughSalt() {
        int[][] cases = {{19, 0}, {20, 20}, {21, 20}, {0, 0}, {39, 20}, {40, 20}};
        for (int[] c : cases) {
            SnowPlough p = Check.loaded(ROAD + "salt " + c[0] + ";fall 36;");
            Check.is("39 salt takes no time", 100, p.drive(0, true));
            Check.is("31 of " + c[0], c[0] - c[1], p.saltLeft());
            Check.is("44 of " + c[0], c[1], p.saltUsed());
            Check.is("37 of " + c[0], c[1] > 0 ? 1900 : 100, p.secondsToDepth(0, 1));
            SnowPlough q = Check.loaded(ROAD + "salt " + c[0] + ";fall 36;");
            q.drive(0, false);
            Check.is("31 not to be spread", c[0], q.saltLeft());
            Check.is("44 not to be spread", 0, q.saltUsed());
            Check.is("37 not to be spread", 100, q.secondsToDepth(0, 1));
        }
        SnowPlough p = Check.loaded(ROAD + "salt 39;fall 36;");
        p.drive(0, true);
        p.drive(1, true);
        Check.is("31 one too few for the second", 19, p.saltLeft());
        Check.is("37 the first", 1779, p.secondsToDepth(0, 1));
        Check.is("37 the second", 100, p.secondsToDepth(1, 1));
        SnowPlough q = Check.loaded(ROAD + "salt 40;fall 36;");
        q.drive(0, true);
        q.drive(1, true);
        Check.is("31 just enough for the second", 0, q.saltLeft());
        Check.is("37 the second", 1900, q.secondsToDepth(1, 1));
        q.drive(0, true);
        Check.is("31 none is left", 0, q.saltLeft());
        Check.is("37 the salt before is gone too", 100, q.secondsToDepth(0, 1));
    }

    private static void ratesOfClasses() {
        SnowPlough p = Check.loaded(TWO + "road r a b 100 1;road s b a 100 2;road t a b 100 3;spread 99 50 1;salt 149;");
        p.drive(0, true);
        Check.is("31 class 1", 50, p.saltLeft());
        p.drive(2, true);
        Check.is("31 class 2", 0, p.saltLeft());
        p.drive(4, true);
        Check.is("31 class 3", 0, p.saltLeft());
        Check.is("44", 149, p.saltUsed());
        Check.is("59 class 1", 198, p.saltNeeded(1));
        Check.is("59 class 2", 298, p.saltNeeded(2));
        Check.is("59 class 3", 300, p.saltNeeded(3));
    }

    private static void driveTo() {
        SnowPlough p = Check.loaded(Worked.BASE + "fall 36;");
        Check.is("40 it is there", 0, p.driveTo(0, true));
        Check.is("31 and spreads nothing", 500, p.saltLeft());
        Check.is("30 and drives nothing", -1, p.lastArc());
        Check.is("51 nothing can be undone", 1, p.undoCount());
        Check.is("40 one arc", 100, p.driveTo(1, true));
        Check.is("31 it spreads", 480, p.saltLeft());
        Check.is("40 it is there", 0, p.driveTo(1, true));
        Check.is("30 still", 0, p.lastArc());
        Check.is("51 one call", 2, p.undoCount());
        p.undo();
        Check.is("40 two arcs, the second 1 deep when it begins", 100 + 5 + 200 + 2, p.driveTo(2, true));
        Check.is("46 the turn", 1, p.turnsMade(2));
        Check.is("45", 300, p.distance());
        Check.is("47", 1, p.passes(0));
        Check.is("47", 1, p.passes(2));
        Check.is("31", 460, p.saltLeft());
        Check.is("51 one call", 2, p.undoCount());
        SnowPlough q = Check.loaded("node a 0 0;node b 10 0;road x a b 5 1 oneway;");
        q.drive(0, true);
        Check.is("40 no way back, but it is there", 0, q.driveTo(1, true));
        Check.is("63 no way back, but it is there", 0, q.pathTime(1));
        Check.noElement("40 no way back", () -> q.driveTo(0, true));
    }

    /** pathTime() is what driveTo() takes then, from wherever the plough is and however deep the snow. */
    private static void driveToAndPathTime() {
        for (int to = 0; to < 3; to++) {
            SnowPlough p = Worked.full();
            int time = p.time();
            int due = p.pathTime(to);
            Check.is("28 predicted", time, p.time());
            Check.is("40 to " + to, due, p.driveTo(to, to == 0));
            Check.is("28 to " + to, time + due, p.time());
            Check.is("29 to " + to, to, p.position());
        }
    }

    private static void waiting() {
        SnowPlough p = new SnowPlough();
        Check.is("41 the least", 0, p.waitFor(0));
        Check.is("51", 0, p.undoCount());
        Check.is("41 one", 1, p.waitFor(1));
        Check.is("51", 1, p.undoCount());
        Check.is("41 the most", 86401, p.waitFor(86400));
        for (int i = 2; i <= 11; i++) {
            p.waitFor(86400);
        }
        int rest = 1000000 - 1 - 11 * 86400;
        Check.noState("41 one too many", () -> p.waitFor(rest + 1));
        Check.is("28 it did not pass", 1000000 - rest, p.time());
        Check.is("41 one too few", 999999, p.waitFor(rest - 1));
        Check.noState("41 two more", () -> p.waitFor(2));
        Check.is("41 one more", 1000000, p.waitFor(1));
        Check.is("41 none", 1000000, p.waitFor(0));
        Check.noState("41 one more", () -> p.waitFor(1));
        Check.noState("41 a day more", () -> p.waitFor(86400));
        Check.noArgument("41 both", () -> p.waitFor(86401));
        Check.noArgument("41 both", () -> p.waitFor(-1));
        p.undo();
        Check.is("41 undone", 1000000, p.waitFor(1));
    }

    /** Only waiting has a last second: driving has none. */
    private static void behindTheLastSecond() {
        SnowPlough p = Worked.late();
        Check.is("39 at the last second", 100, p.drive(0, true));
        Check.is("28", 1000100, p.time());
        Check.noState("41 the time would be greater", () -> p.waitFor(0));
        Check.noState("41 the time would be greater", () -> p.waitFor(1));
        Check.is("40", 205, p.driveTo(2, true));
        Check.is("28", 1000305, p.time());
        Check.is("43", 0, p.setFall(36));
        Check.is("37", 100, p.secondsToDepth(1, 1));
        Check.is("37 salted until 1002105", 1900, p.secondsToDepth(2, 1));
        Check.is("61", 2000, p.depthAfter(1, 1000000));
        p.undo();
        p.undo();
        p.undo();
        Check.is("41 it is the last second again", 1000000, p.waitFor(0));
    }

    private static void refilling() {
        SnowPlough p = Check.loaded(ROAD + "depot b;salt 1;spread 1 1 1;");
        Check.is("42 it is full", 0, p.refill());
        Check.is("51", 1, p.undoCount());
        p.drive(1, true);
        Check.is("31", 0, p.saltLeft());
        Check.noState("42 node 0 is not the depot", p::refill);
        int time = p.time() + p.drive(0, true);
        Check.is("42 one", 1, p.refill());
        Check.is("28 it takes no time", time, p.time());
        Check.is("51 it can be undone", 4, p.undoCount());
        Check.is("31", 1, p.saltLeft());
        Check.is("44 it was used all the same", 1, p.saltUsed());
        Check.is("30 it stands there", 0, p.lastArc());
        Check.is("42 it is full", 0, p.refill());
        Check.is("51", 4, p.undoCount());
        Check.is("50", 3, p.undo());
        Check.is("31", 0, p.saltLeft());
        Check.is("42 no capacity", 0, Check.loaded("node a 0 0;salt 0;").refill());
        Check.noState("42 without nodes", () -> Check.loaded("salt 0;").refill());
        SnowPlough q = Check.loaded(TWO + "road r a b 999 1;spread 99 0 0;salt 9999;");
        for (int i = 0; i < 10; i++) {
            q.drive(i % 2, true);
        }
        Check.is("31", 9999 - 10 * 989, q.saltLeft());
        Check.is("42", 9890, q.refill());
        Check.is("31", 9999, q.saltLeft());
    }

    private static void counters() {
        SnowPlough p = Check.loaded(ROAD);
        int[] kinds = NO_KINDS.clone();
        for (int i = 0; i < 5; i++) {
            p.drive(i % 2, false);
            kinds[3] += i > 0 ? 1 : 0;
            for (int kind = 0; kind < 4; kind++) {
                Check.is("46 after drive " + i, kinds[kind], p.turnsMade(kind));
            }
            Check.is("45 after drive " + i, 100 * (i + 1), p.distance());
            Check.is("47 after drive " + i, i / 2 + 1, p.passes(0));
            Check.is("47 after drive " + i, (i + 1) / 2, p.passes(1));
            Check.is("48 after drive " + i, i == 0 ? 2 : 0, p.untouched(1));
        }
        for (int i = 3; i >= 0; i--) {
            p.undo();
            Check.is("46 undone to " + i, i, p.turnsMade(3));
            Check.is("45 undone to " + i, 100 * (i + 1), p.distance());
            Check.is("47 undone to " + i, i / 2 + 1, p.passes(0));
        }
        p.undo();
        Check.is("48 all undone", 3, p.untouched(1));
    }

    private static void sinceLoad() {
        SnowPlough p = Worked.full();
        p.truncate(0);
        Check.load(p, Worked.BASE);
        Check.is("44", 0, p.saltUsed());
        Check.is("45", 0, p.distance());
        for (int kind = 0; kind < 4; kind++) {
            Check.is("46", 0, p.turnsMade(kind));
        }
        for (int arc = 0; arc < 5; arc++) {
            Check.is("47", 0, p.passes(arc));
        }
        Check.is("48", 31, p.untouched(3));
        Check.is("30", -1, p.lastArc());
        Check.is("38 no turn", 100, p.driveTime(0));
        p.undo();
        Check.is("45 undone", 1100, p.distance());
        Check.is("30 undone", 3, p.lastArc());
    }

    private static void nearestDeepArc() {
        SnowPlough p = Check.loaded("node a 0 0;node b 10 0;node c 20 0;road r a b 5 1;road s b c 9 1;snow r 7;snow s 8;");
        Check.is("54 less than both", 0, p.nearestDeepArc(6));
        Check.is("54 as deep is not deeper", 2, p.nearestDeepArc(7));
        Check.is("54 as deep as both", -1, p.nearestDeepArc(8));
        Check.is("54 limit 0", 0, p.nearestDeepArc(0));
        Check.is("54 limit 2000", -1, p.nearestDeepArc(2000));
        p.drive(0, false);
        // Behind arc 0: straight on to arc 2 costs 9, the U-turn to arc 1 costs 25.
        Check.is("54 the turn counts", 2, p.nearestDeepArc(0));
        SnowPlough q = Check.loaded("node a 0 0;node b 10 0;node c 20 0;road r a b 5 1;road s b c 25 1;snow r 7;snow s 8;");
        q.drive(0, false);
        Check.is("54 the lowest of equals", 1, q.nearestDeepArc(0));
        SnowPlough r = Check.loaded("node a 0 0;node b 10 0;node c 20 0;road r a b 5 1;road s b c 24 1;snow r 7;snow s 8;");
        r.drive(0, false);
        Check.is("54 one less", 2, r.nearestDeepArc(0));
        SnowPlough s = Worked.lost();
        s.waitFor(1);
        s.setFall(99);
        s.waitFor(86400);
        Check.is("54 deep, but not to be reached", 1, s.deepArcs(0));
        Check.is("54 deep, but not to be reached", -1, s.nearestDeepArc(0));
        Check.is("54 no arc at all", -1, Check.loaded("node a 0 0;").nearestDeepArc(0));
        Check.is("54 without nodes", -1, new SnowPlough().nearestDeepArc(0));
    }

    private static void output() {
        SnowPlough p = Check.loaded("node a 0 0;");
        Check.noIndex("53 nothing is written yet", () -> p.outputByte(0));
        String text = "node a 0 0;turns 0 2 5 20;depot a;salt 500;spread 20 10 5;fall 0;";
        Check.is("52", text.length(), p.writeNetwork());
        for (int i = 0; i < text.length(); i++) {
            Check.is("53 byte " + i, text.charAt(i), p.outputByte(i));
        }
        Check.noIndex("53 behind it", () -> p.outputByte(text.length()));
        Check.load(p, "");
        Check.is("53 it stays", ';', p.outputByte(text.length() - 1));
        String less = "turns 0 2 5 20;salt 500;spread 20 10 5;fall 0;";
        Check.is("52 it is replaced", less.length(), p.writeNetwork());
        Check.is("53 it is replaced", 't', p.outputByte(0));
        Check.noIndex("53 the rest is gone", () -> p.outputByte(less.length()));
        SnowPlough q = Check.loaded(ROAD + "snow r 1;fall 99;");
        q.waitFor(86400);
        q.drive(0, true);
        Check.same("52 as it was loaded", "node a 0 0;node b 1 0;road r a b 100 1;turns 0 2 5 20;depot a;salt 500;"
                + "spread 20 10 5;snow r 1;fall 99;", Check.output(q));
        for (int number : new int[] {0, 9, 10, 99, 100, 999, 1000, 9999}) {
            Check.same("52 " + number, "turns 0 2 5 20;salt " + number + ";spread 20 10 5;fall 0;",
                    Check.output(Check.loaded("salt " + number + ";")));
        }
    }

    /** 'An object is used for at most 512 calls': each of them is answered. */
    private static void fiveHundredAndTwelveCalls() {
        SnowPlough p = new SnowPlough();
        Check.load(p, TWO + "road r a b 999 1;snow r 999;fall 99;turns 99 99 99 99;");
        // Five appends, two truncates and one load: 504 calls are left.
        int time = 0;
        for (int i = 0; i < 502; i++) {
            time += p.drive(i % 2, true);
        }
        Check.is("the 511th call", time, p.time());
        Check.is("the 512th call", 502 * 999, p.distance());
        SnowPlough q = new SnowPlough();
        for (int i = 0; i < 511; i++) {
            q.load();
        }
        Check.is("the 512th call", 10, q.undoCount());
    }
}
