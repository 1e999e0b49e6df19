/** Promises 29 to 31, 38 to 42, 44 to 48, 50 to 54 and 63: the plough, undo and the output. */
public final class PloughTest {
    private static final String BASE = "node a 0 0;node b 10 0;node c 10 10;"
            + "road ab a b 100 1;road bc b c 200 2;road ca c a 300 3 oneway;";
    private static final String SNOWY = BASE + "snow bc 50;fall 36;";
    private static final int[] NO_ARCS = {-1, 5, 24, Integer.MIN_VALUE, Integer.MAX_VALUE};
    private static final int[] NO_NODES = {-1, 3, 10, Integer.MIN_VALUE, Integer.MAX_VALUE};

    public static void main(String[] args) {
        promises29To31();
        promises38And39();
        salt();
        promise40();
        promise41();
        promise42();
        promises44To48();
        promises50And51();
        everythingIsUndone();
        whatCannotBeUndone();
        promises52And53();
        promise54();
        promise63();
        withoutNodes();
        Check.end("PloughTest");
    }

    private static void promises29To31() {
        SnowPlough p = Check.loaded(BASE + "depot b;salt 77;");
        Check.is("29", 1, p.position());
        Check.is("30", -1, p.lastArc());
        Check.is("31", 77, p.saltLeft());
        p.drive(1, true);
        Check.is("29 driven", 0, p.position());
        Check.is("30 driven", 1, p.lastArc());
        Check.is("31 driven", 57, p.saltLeft());
        Check.load(p, "salt 12;");
        Check.is("29 without nodes", -1, p.position());
        Check.is("30 without nodes", -1, p.lastArc());
        Check.is("31 without nodes", 12, p.saltLeft());
    }

    private static void promises38And39() {
        SnowPlough p = Check.loaded(SNOWY);
        p.waitFor(1000);
        Check.is("38 no turn at first", 110, p.driveTime(0));
        Check.noState("38 it begins elsewhere", () -> p.driveTime(2));
        Check.noState("39 it begins elsewhere", () -> p.drive(2, true));
        Check.is("39", 110, p.drive(0, false));
        Check.is("38 a left turn, 61 deep, not when it gets there", 5 + 200 + 122, p.driveTime(2));
        Check.is("38 a U-turn, 11 deep", 20 + 100 + 11, p.driveTime(1));
        Check.is("28 predictions change nothing", 1110, p.time());
        Check.is("39 the same", 327, p.drive(2, false));
        Check.is("28 it took", 1437, p.time());
        Check.is("33 it is cleared", 0, p.depth(2));
        Check.is("33 the other direction is not", 64, p.depth(3));
        for (int arc : NO_ARCS) {
            Check.noIndex("38 " + arc, () -> p.driveTime(arc));
            Check.noIndex("39 " + arc, () -> p.drive(arc, false));
        }
        SnowPlough q = Check.loaded("node a 0 0;node b 1 0;road x a b 33 1;snow x 10;");
        Check.is("38 rounded down", 36, q.driveTime(0));
    }

    private static void salt() {
        SnowPlough p = Check.loaded(BASE + "salt 40;spread 20 10 5;fall 36;");
        p.drive(0, true);
        Check.is("31 arc 0", 20, p.saltLeft());
        Check.is("61 no snow for 1800 seconds", 0, p.depthAfter(0, 1899));
        p.drive(2, true);
        Check.is("31 just enough", 0, p.saltLeft());
        p.drive(4, true);
        Check.is("31 too little", 0, p.saltLeft());
        Check.is("61 snow at once", 1, p.depthAfter(4, 100));
        Check.is("44", 40, p.saltUsed());
        SnowPlough q = Check.loaded(BASE + "salt 19;fall 36;");
        q.drive(0, true);
        Check.is("31 not a part", 19, q.saltLeft());
        Check.is("37 unsalted", 100, q.secondsToDepth(0, 1));
        SnowPlough r = Check.loaded(BASE + "salt 0;spread 0 1 1;fall 36;");
        r.drive(0, true);
        Check.is("37 no salt is needed", 1900, r.secondsToDepth(0, 1));
        SnowPlough s = Check.loaded("node a 0 0;node b 1 0;road x a b 99 1;spread 1 0 0;salt 0;fall 36;");
        s.drive(0, true);
        Check.is("37 rounded down to none", 1900, s.secondsToDepth(0, 1));
        SnowPlough t = Check.loaded(BASE + "fall 36;");
        t.drive(0, false);
        Check.is("31 not to be spread", 500, t.saltLeft());
        Check.is("37 not spread", 100, t.secondsToDepth(0, 1));
    }

    private static void promise40() {
        SnowPlough p = Check.loaded(SNOWY);
        Check.is("40 it is there", 0, p.driveTo(0, true));
        Check.is("51 nothing to undo", 1, p.undoCount());
        // Arc 0: 100; at 100 arc 2 is 51 deep: 5 + 200 + 102.
        Check.is("40 two arcs", 100 + 307, p.driveTo(2, true));
        Check.is("29", 2, p.position());
        Check.is("30", 2, p.lastArc());
        Check.is("44", 40, p.saltUsed());
        Check.is("51 one call", 2, p.undoCount());
        Check.is("50", 1, p.undo());
        Check.is("29 all of it is undone", 0, p.position());
        for (int node : NO_NODES) {
            Check.noIndex("40 " + node, () -> p.driveTo(node, false));
        }
        SnowPlough q = Check.loaded("node a 0 0;node b 1 0;node c 2 0;road x a b 5 1 oneway;");
        q.drive(0, false);
        Check.noElement("40 no route", () -> q.driveTo(0, true));
        Check.noElement("40 no route", () -> q.driveTo(2, true));
        Check.is("40 but it is there", 0, q.driveTo(1, true));
        lastArcDoesNotChoose();
    }

    private static void lastArcDoesNotChoose() {
        // From b to c: the road there costs 3, but the shorter way begins with a U-turn that costs 99.
        SnowPlough p = Check.loaded("node a 0 0;node b 10 0;node c 0 10;road x a b 1 1;road y a c 1 1 oneway;"
                + "road z b c 3 1 oneway;turns 0 0 0 99;");
        p.drive(0, false);
        Check.is("18", 2, p.pathCost(1, 2));
        Check.is("40 the turn costs time", 101, p.driveTo(2, false));
        Check.is("46 it was made", 1, p.turnsMade(3));
    }

    private static void promise41() {
        SnowPlough p = Check.loaded(BASE);
        Check.is("41 nothing", 0, p.waitFor(0));
        Check.is("51 nothing to undo", 1, p.undoCount());
        Check.is("41", 5, p.waitFor(5));
        Check.is("51", 2, p.undoCount());
        for (int seconds : new int[] {-1, 86401, Integer.MIN_VALUE, Integer.MAX_VALUE}) {
            Check.noArgument("41 " + seconds, () -> p.waitFor(seconds));
        }
        for (int i = 1; i <= 11; i++) {
            Check.is("41 a day", 5 + 86400 * i, p.waitFor(86400));
        }
        Check.noState("41 too late", () -> p.waitFor(49596));
        Check.noArgument("41 both", () -> p.waitFor(86401));
        Check.is("41 the last second", 1000000, p.waitFor(49595));
        Check.is("41 nothing more", 1000000, p.waitFor(0));
        Check.noState("41 one more", () -> p.waitFor(1));
        Check.is("41 without nodes", 9, new SnowPlough().waitFor(9));
    }

    private static void promise42() {
        SnowPlough p = Check.loaded(BASE + "salt 50;");
        Check.is("42 it is full", 0, p.refill());
        Check.is("51 nothing to undo", 1, p.undoCount());
        p.drive(0, true);
        Check.noState("42 elsewhere", () -> p.refill());
        p.drive(1, true);
        int time = p.time();
        Check.is("42", 40, p.refill());
        Check.is("31", 50, p.saltLeft());
        Check.is("44 stays", 40, p.saltUsed());
        Check.is("28 no time", time, p.time());
        Check.is("51", 4, p.undoCount());
        p.undo();
        Check.is("31 undone", 10, p.saltLeft());
        Check.noState("42 without nodes", () -> new SnowPlough().refill());
    }

    private static void promises44To48() {
        SnowPlough p = Check.loaded(BASE);
        Check.is("48 class 1", 3, p.untouched(1));
        Check.is("48 class 3", 31, p.untouched(3));
        for (int arc : new int[] {0, 1, 0, 2, 4, 0}) {
            p.drive(arc, arc != 1);
        }
        Check.is("44", 20 * 3 + 20 + 15, p.saltUsed());
        Check.is("45", 100 * 4 + 200 + 300, p.distance());
        Check.is("46 straight", 0, p.turnsMade(0));
        Check.is("46 right", 0, p.turnsMade(1));
        Check.is("46 left", 3, p.turnsMade(2));
        Check.is("46 U-turns", 2, p.turnsMade(3));
        int[] passes = {3, 1, 1, 0, 1};
        for (int arc = 0; arc < 5; arc++) {
            Check.is("47 arc " + arc, passes[arc], p.passes(arc));
        }
        Check.is("48 class 1", 0, p.untouched(1));
        Check.is("48 class 2", 8, p.untouched(2));
        Check.is("48 class 3", 8, p.untouched(3));
        for (int kind : new int[] {-1, 4, Integer.MIN_VALUE, Integer.MAX_VALUE}) {
            Check.noArgument("46 " + kind, () -> p.turnsMade(kind));
        }
        for (int arc : NO_ARCS) {
            Check.noIndex("47 " + arc, () -> p.passes(arc));
        }
        for (int c : new int[] {0, 4, Integer.MIN_VALUE, Integer.MAX_VALUE}) {
            Check.noArgument("48 " + c, () -> p.untouched(c));
        }
        Check.load(p, BASE);
        Check.is("44 after load", 0, p.saltUsed());
        Check.is("45 after load", 0, p.distance());
        Check.is("46 after load", 0, p.turnsMade(3));
        Check.is("47 after load", 0, p.passes(0));
        Check.is("48 after load", 31, p.untouched(3));
    }

    private static void promises50And51() {
        SnowPlough p = new SnowPlough();
        Check.noState("50 nothing", () -> p.undo());
        Check.load(p, BASE);
        for (int i = 1; i <= 14; i++) {
            p.waitFor(i);
            Check.is("51 at most 10", Math.min(10, 1 + i), p.undoCount());
        }
        int time = 105;
        for (int i = 1; i <= 10; i++) {
            Check.is("50", 10 - i, p.undo());
            time -= 15 - i;
            Check.is("28 undone", time, p.time());
        }
        Check.noState("50 no more are kept", () -> p.undo());
        Check.is("28 the rest stays", 10, p.time());
        Check.is("51", 0, p.undoCount());
        p.waitFor(1);
        Check.is("51 again", 1, p.undoCount());
        Check.is("50 again", 0, p.undo());
    }

    private static void everythingIsUndone() {
        SnowPlough p = Check.loaded(SNOWY + "salt 100;depot b;turns 1 3 6 21;spread 19 9 4;");
        p.waitFor(500);
        p.drive(1, true);
        String before = story(p);
        p.drive(0, true);
        p.driveTo(2, true);
        p.setFall(3);
        p.waitFor(70);
        Check.load(p, "node z 1 1;salt 3;turns 9 9 9 9;spread 1 1 1;fall 5;");
        p.setFall(6);
        Check.is("51", 9, p.undoCount());
        for (int i = 8; i >= 3; i--) {
            Check.is("50", i, p.undo());
        }
        Check.same("50 everything is as before", before, story(p));
    }

    private static String story(SnowPlough p) {
        StringBuilder text = new StringBuilder(Check.output(p));
        text.append(p.nodeCount()).append(' ').append(p.time()).append(' ').append(p.position()).append(' ');
        text.append(p.lastArc()).append(' ').append(p.saltLeft()).append(' ').append(p.saltUsed()).append(' ');
        text.append(p.distance()).append(' ').append(p.untouched(3)).append(' ').append(p.totalSnow()).append(' ');
        for (int arc = 0; arc < 5; arc++) {
            text.append(p.passes(arc)).append(' ').append(p.depth(arc)).append(' ');
            text.append(p.secondsToDepth(arc, 1000)).append(' ').append(p.cycleCost(arc)).append(' ');
        }
        for (int kind = 0; kind < 4; kind++) {
            text.append(p.turnsMade(kind)).append(' ').append(p.turnCost(kind)).append(' ');
        }
        return text.append(p.saltNeeded(3)).append(' ').append(p.planCost(3)).toString();
    }

    private static void whatCannotBeUndone() {
        SnowPlough p = Check.loaded(BASE);
        Check.type(p, "b");
        p.waitFor(5);
        Check.same("52", "node a", Check.output(p).substring(0, 6));
        p.undo();
        p.undo();
        Check.is("7 the load is undone", 0, p.nodeCount());
        Check.is("53 the output stays", 'n', p.outputByte(0));
        Check.load(p, " ode");
        Check.is("5 the error", 1, p.errorCode());
        Check.is("6 the input buffer stayed", 0, p.errorPosition());
        SnowPlough q = Check.loaded(BASE);
        Check.load(q, "oops");
        Check.is("51 a parse error cannot be undone", 1, q.undoCount());
        q.undo();
        Check.is("5 the parse error stays", 1, q.errorCode());
    }

    private static void promises52And53() {
        SnowPlough p = Check.loaded("fall 9;node b 09 1;salt 01;node abcdef 0 99;spread 1 2 99;road r b abcdef 999 3 oneway;\n"
                + "snow r 7; depot abcdef ; turns 4 3 2 1;road zz abcdef b 1 1;snow r 6;road x b abcdef 10 2;snow x 999;");
        String text = "node b 9 1;node abcdef 0 99;road r b abcdef 999 3 oneway;road zz abcdef b 1 1;"
                + "road x b abcdef 10 2;turns 4 3 2 1;depot abcdef;salt 1;spread 1 2 99;snow r 6;snow x 999;fall 9;";
        Check.same("52", text, Check.output(p));
        Check.is("52 the length", text.length(), p.writeNetwork());
        Check.noIndex("53 behind the output", () -> p.outputByte(text.length()));
        for (int index : new int[] {-1, 1200, Integer.MIN_VALUE, Integer.MAX_VALUE}) {
            Check.noIndex("53 index " + index, () -> p.outputByte(index));
        }
        p.setFall(99);
        Check.is("53 written before", '9', p.outputByte(text.length() - 2));
        Check.is("53 written before", ' ', p.outputByte(text.length() - 3));
        p.driveTo(0, true);
        p.drive(4, true);
        Check.same("52 the present fall alone", text.replace("fall 9", "fall 99"), Check.output(p));
        Check.load(p, text);
        Check.same("52 it can be loaded", text, Check.output(p));
        Check.load(p, "snow r 0;");
        Check.load(p, "salt 9999;");
        Check.same("52 without nodes", "turns 0 2 5 20;salt 9999;spread 20 10 5;fall 0;", Check.output(p));
        Check.noIndex("53 a shorter output", () -> p.outputByte(text.length() - 1));
        Check.same("52 without snow", false, Check.output(Check.loaded(BASE + "snow ab 5;snow ab 0;")).contains("snow"));
        longestOutput();
    }

    private static void longestOutput() {
        StringBuilder text = new StringBuilder();
        for (int i = 0; i < 10; i++) {
            text.append("node zzzzz").append((char) ('a' + i)).append(" 99 ").append(90 + i).append(';');
        }
        for (int i = 0; i < 12; i++) {
            text.append("road yyyyy").append((char) ('a' + i)).append(" zzzzza zzzzzb 999 3 oneway;");
        }
        text.append("turns 99 99 99 99;depot zzzzzj;salt 9999;spread 99 99 99;");
        for (int i = 0; i < 12; i++) {
            text.append("snow yyyyy").append((char) ('a' + i)).append(" 999;");
        }
        text.append("fall 99;");
        Check.same("52 the longest", text, Check.output(Check.loaded(text.toString())));
    }

    private static void promise54() {
        SnowPlough p = Check.loaded(SNOWY);
        Check.is("54 from the depot", 2, p.nearestDeepArc(0));
        Check.is("54 none is so deep", -1, p.nearestDeepArc(50));
        p.waitFor(100);
        Check.is("54 the nearest", 0, p.nearestDeepArc(0));
        p.drive(0, false);
        Check.is("54 a U-turn is nearer", 1, p.nearestDeepArc(0));
        Check.is("54 but not deep enough", 2, p.nearestDeepArc(2));
        p.waitFor(600);
        Check.is("54 the last arc is farther", 1, p.nearestDeepArc(5));
        SnowPlough q = Check.loaded("node a 0 0;node b 10 0;node c 20 0;node d 10 10;road x a b 9 1 oneway;"
                + "road y b c 9 1;road z b d 9 1;snow y 5;snow z 5;turns 7 0 1 0;");
        q.drive(0, false);
        Check.is("54 the turn counts", 4, q.nearestDeepArc(4));
        q.undo();
        // From the depot both are behind a turn at b.
        Check.is("54 from the depot", 4, q.nearestDeepArc(4));
        SnowPlough r = Check.loaded("node a 0 0;node b 10 0;node c 0 10;road x a b 9 1;road y a c 9 1;snow x 5;snow y 5;");
        Check.is("54 the lowest of equals", 0, r.nearestDeepArc(0));
        SnowPlough s = Check.loaded("node a 0 0;node b 10 0;road x b a 9 1 oneway;snow x 5;");
        Check.is("54 none can be reached", -1, s.nearestDeepArc(0));
        SnowPlough t = Check.loaded("node a 0 0;node b 10 0;road x a b 9 1;fall 99;");
        t.drive(0, false);
        t.drive(1, true);
        t.waitFor(300);
        t.drive(0, true);
        t.drive(1, true);
        t.waitFor(3600);
        Check.is("54 back to the last arc", 0, t.nearestDeepArc(0));
        for (int limit : new int[] {-1, 2001, Integer.MIN_VALUE, Integer.MAX_VALUE}) {
            Check.noArgument("54 limit " + limit, () -> p.nearestDeepArc(limit));
        }
        lastArcAgain();
    }

    private static void lastArcAgain() {
        SnowPlough p = Check.loaded("node a 0 0;node b 10 0;node c 20 0;road x a b 9 1;road y b c 40 1;fall 99;");
        p.drive(0, false);
        p.waitFor(3600);
        Check.is("54 the last arc is not there at once", 1, p.nearestDeepArc(0));
        SnowPlough q = Check.loaded("node a 0 0;node b 10 0;road x a b 9 1;fall 99;");
        q.drive(0, false);
        q.waitFor(400);
        q.drive(1, true);
        q.drive(0, false);
        q.waitFor(400);
        Check.is("35 only the last arc is deep", 1, q.deepArcs(0));
        Check.is("54 the last arc again", 0, q.nearestDeepArc(0));
    }

    private static void promise63() {
        SnowPlough p = Check.loaded(SNOWY);
        Check.is("63 it is there", 0, p.pathTime(0));
        Check.is("63 two arcs", 407, p.pathTime(2));
        Check.is("29 nothing changes", 0, p.position());
        Check.is("28 nothing changes", 0, p.time());
        Check.is("51 nothing to undo", 1, p.undoCount());
        Check.is("63 as driveTo", 407, p.driveTo(2, false));
        for (int node : NO_NODES) {
            Check.noIndex("63 " + node, () -> p.pathTime(node));
        }
        SnowPlough q = Check.loaded("node a 0 0;node b 1 0;road x b a 5 1 oneway;");
        Check.noElement("63 no route", () -> q.pathTime(1));
    }

    private static void withoutNodes() {
        SnowPlough p = new SnowPlough();
        Check.noIndex("38 without nodes", () -> p.driveTime(0));
        Check.noIndex("39 without nodes", () -> p.drive(0, true));
        Check.noIndex("40 without nodes", () -> p.driveTo(0, true));
        Check.noIndex("63 without nodes", () -> p.pathTime(0));
        Check.noIndex("47 without nodes", () -> p.passes(0));
        Check.is("48 without nodes", 0, p.untouched(3));
        Check.is("54 without nodes", -1, p.nearestDeepArc(0));
        Check.is("45 without nodes", 0, p.distance());
        Check.is("44 without nodes", 0, p.saltUsed());
        Check.is("46 without nodes", 0, p.turnsMade(0));
    }
}
