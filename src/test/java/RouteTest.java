/** Promises 10 to 22 and 55 to 58: arcs, turns and routes. */
public final class RouteTest {
    private static final String BASE = "node a 0 0;node b 10 0;node c 10 10;"
            + "road ab a b 100 1;road bc b c 200 2;road ca c a 300 3 oneway;";
    private static final String SQUARE = "node a 0 0;node b 1 0;node c 0 1;node d 1 1;"
            + "road p a b 1 1;road q a c 1 1;road r b d 1 1;road s c d 1 1;";
    private static final int[] NO_ARCS = {-1, 5, 24, 32, 36, Integer.MIN_VALUE, Integer.MAX_VALUE};
    private static final int[] NO_NODES = {-1, 3, 10, 32, Integer.MIN_VALUE, Integer.MAX_VALUE};

    public static void main(String[] args) {
        promises10To14();
        promises15And16();
        promise17();
        promises18And19();
        bestRoutes();
        promises20To22();
        promises55To57();
        promise58();
        wrongArcs();
        wrongNodes();
        withoutNodes();
        Check.end("RouteTest");
    }

    private static void promises10To14() {
        SnowPlough p = Check.loaded(BASE);
        Check.is("10", 31, p.arcs());
        int[][] arcs = {{0, 1, 100, 1}, {1, 0, 100, 1}, {1, 2, 200, 2}, {2, 1, 200, 2}, {2, 0, 300, 3}};
        for (int arc = 0; arc < arcs.length; arc++) {
            Check.is("11 arc " + arc, arcs[arc][0], p.arcStart(arc));
            Check.is("12 arc " + arc, arcs[arc][1], p.arcEnd(arc));
            Check.is("13 arc " + arc, arcs[arc][2], p.arcLength(arc));
            Check.is("14 arc " + arc, arcs[arc][3], p.arcClass(arc));
        }
        SnowPlough q = Check.loaded("node a 0 0;node b 1 0;road x a b 5 3 oneway;road y b a 999 1;");
        Check.is("10 a gap", 13, q.arcs());
        Check.noIndex("11 the gap", () -> q.arcStart(1));
        Check.noIndex("12 the gap", () -> q.arcEnd(1));
        Check.is("13 behind the gap", 999, q.arcLength(3));
    }

    private static void promises15And16() {
        SnowPlough p = Check.loaded("node m 50 50;node e 60 50;node n 50 99;node w 0 50;node ne 99 99;node s 50 0;"
                + "road me m e 1 1;road mn m n 1 1;road mw m w 1 1;road mne m ne 1 1;road ms m s 1 1;turns 1 3 7 99;");
        int[][] turns = {{5, 0, 0}, {5, 2, 2}, {5, 8, 1}, {5, 4, 3}, {5, 6, 2}, {7, 2, 1}, {7, 0, 2}, {3, 8, 0},
                {3, 4, 1}, {9, 8, 3}};
        for (int[] turn : turns) {
            Check.is("15 turn " + turn[0] + " " + turn[1], turn[2], p.turn(turn[0], turn[1]));
        }
        Check.noArgument("15 not behind one another", () -> p.turn(0, 0));
        Check.noArgument("15 not behind one another", () -> p.turn(0, 2));
        Check.noIndex("15 no first arc", () -> p.turn(10, 0));
        Check.noIndex("15 no second arc", () -> p.turn(0, 10));
        Check.is("16 straight", 1, p.turnCost(0));
        Check.is("16 right", 3, p.turnCost(1));
        Check.is("16 left", 7, p.turnCost(2));
        Check.is("16 U-turn", 99, p.turnCost(3));
        for (int kind : new int[] {-1, 4, Integer.MIN_VALUE, Integer.MAX_VALUE}) {
            Check.noArgument("16 kind " + kind, () -> p.turnCost(kind));
        }
    }

    private static void promise17() {
        SnowPlough p = Check.loaded(BASE);
        int[][] costs = {{0, 0, 0}, {0, 2, 205}, {0, 4, 510}, {2, 0, 410}, {4, 3, 530}, {1, 3, 545}, {3, 2, 220},
                {3, 3, 0}, {0, 1, 120}, {4, 4, 0}};
        for (int[] cost : costs) {
            Check.is("17 route " + cost[0] + " " + cost[1], cost[2], p.routeCost(cost[0], cost[1]));
        }
        SnowPlough q = Check.loaded("node a 0 0;node b 1 0;road x a b 5 3 oneway;road y a b 999 1 oneway;");
        Check.is("17 no route", -1, q.routeCost(0, 2));
        Check.is("17 the same arc", 0, q.routeCost(2, 2));
    }

    private static void promises18And19() {
        SnowPlough p = Check.loaded(BASE);
        int[][] costs = {{0, 0, 0}, {0, 1, 100}, {0, 2, 305}, {1, 0, 100}, {1, 2, 200}, {2, 0, 300}, {2, 1, 200}};
        for (int[] cost : costs) {
            Check.is("18 path " + cost[0] + " " + cost[1], cost[2], p.pathCost(cost[0], cost[1]));
        }
        path(p, 0, 2, 0, 2);
        path(p, 2, 0, 4);
        path(p, 1, 1);
        Check.noElement("19 a negative index", () -> p.pathArc(0, 2, -1));
        Check.noElement("19 a great index", () -> p.pathArc(0, 2, Integer.MAX_VALUE));
        Check.noIndex("19 the node counts before the index", () -> p.pathArc(0, 3, -1));
        SnowPlough q = Check.loaded("node a 0 0;node b 1 0;road x a b 5 3 oneway;");
        Check.is("18 no path", -1, q.pathCost(1, 0));
        path(q, 1, 0);
    }

    private static void path(SnowPlough p, int from, int to, int... arcs) {
        for (int i = 0; i < arcs.length; i++) {
            Check.is("19 arc " + i + " from " + from + " to " + to, arcs[i], p.pathArc(from, to, i));
        }
        Check.noElement("19 behind the path from " + from + " to " + to, () -> p.pathArc(from, to, arcs.length));
    }

    private static void bestRoutes() {
        SnowPlough p = Check.loaded(SQUARE);
        Check.is("18 a right turn is cheaper", 4, p.pathCost(0, 3));
        path(p, 0, 3, 2, 6);
        path(p, 3, 0, 5, 1);
        SnowPlough q = Check.loaded(SQUARE + "turns 3 3 3 3;");
        Check.is("18 a tie", 5, q.pathCost(0, 3));
        path(q, 0, 3, 0, 4);
        path(q, 3, 0, 5, 1);
        SnowPlough r = Check.loaded(SQUARE + "turns 0 0 0 0;road t a d 2 1;");
        path(r, 0, 3, 0, 4);
        path(r, 3, 0, 5, 1);
        SnowPlough s = Check.loaded("node a 0 0;node b 1 0;node c 2 0;road t a c 4 1;road u a b 2 1;road v b c 2 1;"
                + "road w b c 2 1;");
        path(s, 0, 2, 0);
        path(s, 1, 2, 4);
        path(s, 2, 0, 1);
        // Three rights instead of a left: the route passes the crossing twice.
        SnowPlough t = Check.loaded("node s 5 0;node m 5 5;node n 5 6;node e 6 6;node f 6 5;node w 4 5;"
                + "road sm s m 1 1 oneway;road mn m n 1 1 oneway;road ne n e 1 1 oneway;road ef e f 1 1 oneway;"
                + "road fm f m 1 1 oneway;road mw m w 1 1 oneway;turns 0 1 50 50;");
        Check.is("18 around the block", 9, t.pathCost(0, 5));
        path(t, 0, 5, 0, 2, 4, 6, 8, 10);
    }

    private static void promises20To22() {
        SnowPlough p = Check.loaded(BASE);
        Check.is("20", 7, p.reachable(2));
        Check.is("21", true, p.isStronglyConnected());
        Check.is("22 a", -1, p.imbalance(0));
        Check.is("22 b", 0, p.imbalance(1));
        Check.is("22 c", 1, p.imbalance(2));
        SnowPlough q = Check.loaded("node a 0 0;node b 1 0;node c 2 0;road x a b 5 3 oneway;");
        Check.is("20 a", 3, q.reachable(0));
        Check.is("20 b", 2, q.reachable(1));
        Check.is("20 c", 4, q.reachable(2));
        Check.is("21 no", false, q.isStronglyConnected());
        Check.is("22 a", 1, q.imbalance(0));
        Check.is("22 b", -1, q.imbalance(1));
        Check.is("22 c", 0, q.imbalance(2));
        Check.is("21 one node", true, Check.loaded("node a 0 0;").isStronglyConnected());
        SnowPlough r = Check.loaded("node a 9 9;node b 8 9;node c 7 9;node d 6 9;"
                + "road z d c 1 1 oneway;road y c b 1 1 oneway;road x b a 1 1 oneway;");
        Check.is("20 against the numbers", 15, r.reachable(3));
        Check.is("21 one way only", false, r.isStronglyConnected());
    }

    private static void promises55To57() {
        SnowPlough p = Check.loaded(BASE);
        int[] cycles = {220, 220, 420, 420, 610};
        for (int arc = 0; arc < 5; arc++) {
            Check.is("55 arc " + arc, cycles[arc], p.cycleCost(arc));
        }
        Check.is("56 a", 305, p.eccentricity(0));
        Check.is("56 b", 200, p.eccentricity(1));
        Check.is("56 c", 300, p.eccentricity(2));
        Check.is("57", 1, p.centre());
        SnowPlough q = Check.loaded("node a 0 0;node b 1 0;road x b a 5 3 oneway;");
        Check.is("55 no cycle", -1, q.cycleCost(0));
        Check.is("56 some node is not reached", -1, q.eccentricity(0));
        Check.is("56 all are reached", 5, q.eccentricity(1));
        Check.is("57 the only one", 1, q.centre());
        Check.is("57 none", -1, Check.loaded("node a 0 0;node b 1 0;").centre());
        Check.is("57 the lowest of equals", 0, Check.loaded(SQUARE + "turns 0 0 0 0;").centre());
        Check.is("56 a single node", 0, Check.loaded("node a 0 0;").eccentricity(0));
        Check.is("57 a single node", 0, Check.loaded("node a 0 0;").centre());
    }

    private static void promise58() {
        SnowPlough p = Check.loaded(BASE);
        Check.is("58 ab", true, p.isCritical(0));
        Check.is("58 bc", true, p.isCritical(1));
        Check.is("58 ca", false, p.isCritical(2));
        Check.noIndex("58 no road", () -> p.isCritical(3));
        Check.noIndex("58 negative", () -> p.isCritical(-1));
        Check.noIndex("58 greatest", () -> p.isCritical(Integer.MAX_VALUE));
        SnowPlough q = Check.loaded("node a 0 0;node b 1 0;road x a b 5 3 oneway;");
        Check.is("58 not connected at all", false, q.isCritical(0));
        SnowPlough r = Check.loaded(SQUARE);
        for (int road = 0; road < 4; road++) {
            Check.is("58 a ring", false, r.isCritical(road));
        }
    }

    private static void wrongArcs() {
        SnowPlough p = Check.loaded(BASE);
        for (int arc : NO_ARCS) {
            Check.noIndex("11 " + arc, () -> p.arcStart(arc));
            Check.noIndex("12 " + arc, () -> p.arcEnd(arc));
            Check.noIndex("13 " + arc, () -> p.arcLength(arc));
            Check.noIndex("14 " + arc, () -> p.arcClass(arc));
            Check.noIndex("15 from " + arc, () -> p.turn(arc, 0));
            Check.noIndex("15 to " + arc, () -> p.turn(0, arc));
            Check.noIndex("17 from " + arc, () -> p.routeCost(arc, 0));
            Check.noIndex("17 to " + arc, () -> p.routeCost(0, arc));
            Check.noIndex("17 both " + arc, () -> p.routeCost(arc, arc));
            Check.noIndex("55 " + arc, () -> p.cycleCost(arc));
        }
    }

    private static void wrongNodes() {
        SnowPlough p = Check.loaded(BASE);
        for (int node : NO_NODES) {
            Check.noIndex("18 from " + node, () -> p.pathCost(node, 0));
            Check.noIndex("18 to " + node, () -> p.pathCost(0, node));
            Check.noIndex("18 both " + node, () -> p.pathCost(node, node));
            Check.noIndex("19 from " + node, () -> p.pathArc(node, 0, 0));
            Check.noIndex("19 to " + node, () -> p.pathArc(0, node, 0));
            Check.noIndex("20 " + node, () -> p.reachable(node));
            Check.noIndex("22 " + node, () -> p.imbalance(node));
            Check.noIndex("56 " + node, () -> p.eccentricity(node));
        }
    }

    private static void withoutNodes() {
        SnowPlough p = new SnowPlough();
        Check.is("21 without nodes", true, p.isStronglyConnected());
        Check.is("57 without nodes", -1, p.centre());
        Check.noIndex("18 without nodes", () -> p.pathCost(0, 0));
        Check.noIndex("20 without nodes", () -> p.reachable(0));
        Check.noIndex("58 without nodes", () -> p.isCritical(0));
    }
}
