/** Sections 2 and 3 and the promises on arcs, turns and routes: the least and the largest networks, and each tie. */
public final class RouteBoundsTest {
    private static final String TWO = "node a 0 0;node b 1 0;";

    public static void main(String[] args) {
        arcsThatExist();
        theLargestNetwork();
        aSingleNode();
        turnsByAHair();
        turnsAround();
        routesWithTheirTurns();
        theCheapWayIsFoundLate();
        equalCosts();
        indexesOfAPath();
        reachableSets();
        imbalances();
        cycles();
        eccentricitiesAndCentres();
        criticalRoads();
        dearestRoutes();
        Check.end("RouteBoundsTest");
    }

    /** 'Road r has arc 2 * r from FROM to TO and, unless it is oneway, arc 2 * r + 1'; no other number is an arc. */
    private static void arcsThatExist() {
        SnowPlough p = Check.loaded(TWO + "node c 0 1;road r a b 3 1 oneway;road s c a 4 2;road t b c 5 3 oneway;");
        Check.is("10", 0b011101, p.arcs());
        int[][] arcs = {{0, 0, 1, 3, 1}, {2, 2, 0, 4, 2}, {3, 0, 2, 4, 2}, {4, 1, 2, 5, 3}};
        for (int[] a : arcs) {
            Check.is("11 arc " + a[0], a[1], p.arcStart(a[0]));
            Check.is("12 arc " + a[0], a[2], p.arcEnd(a[0]));
            Check.is("13 arc " + a[0], a[3], p.arcLength(a[0]));
            Check.is("14 arc " + a[0], a[4], p.arcClass(a[0]));
            Check.is("17 arc " + a[0], 0, p.routeCost(a[0], a[0]));
            Check.is("33 arc " + a[0], 0, p.depth(a[0]));
            Check.is("47 arc " + a[0], 0, p.passes(a[0]));
        }
        for (int arc : new int[] {-1, 1, 5, 6, 7, 24}) {
            Check.noIndex("11 arc " + arc, () -> p.arcStart(arc));
            Check.noIndex("12 arc " + arc, () -> p.arcEnd(arc));
            Check.noIndex("13 arc " + arc, () -> p.arcLength(arc));
            Check.noIndex("14 arc " + arc, () -> p.arcClass(arc));
            Check.noIndex("15 arc " + arc, () -> p.turn(arc, 0));
            Check.noIndex("15 arc " + arc, () -> p.turn(3, arc));
            Check.noIndex("17 arc " + arc, () -> p.routeCost(arc, 0));
            Check.noIndex("17 arc " + arc, () -> p.routeCost(0, arc));
            Check.noIndex("33 arc " + arc, () -> p.depth(arc));
            Check.noIndex("37 arc " + arc, () -> p.secondsToDepth(arc, 0));
            Check.noIndex("38 arc " + arc, () -> p.driveTime(arc));
            Check.noIndex("39 arc " + arc, () -> p.drive(arc, true));
            Check.noIndex("47 arc " + arc, () -> p.passes(arc));
            Check.noIndex("55 arc " + arc, () -> p.cycleCost(arc));
            Check.noIndex("61 arc " + arc, () -> p.depthAfter(arc, 0));
        }
        Check.is("23 class 1", 0b1, p.requiredArcs(1));
        Check.is("23 class 2", 0b1101, p.requiredArcs(2));
        Check.is("23 class 3", 0b11101, p.requiredArcs(3));
        Check.is("48 class 2", 0b1101, p.untouched(2));
    }

    /** Ten nodes on a line, nine roads along it, three more between its last two nodes. */
    private static String line() {
        StringBuilder text = new StringBuilder();
        for (int i = 0; i < 10; i++) {
            text.append("node ").append((char) ('a' + i)).append(' ').append(11 * i).append(" 0;");
        }
        for (int i = 0; i < 12; i++) {
            text.append("road ").append((char) ('a' + i)).append(' ').append((char) ('a' + Math.min(i, 8))).append(' ')
                    .append((char) ('b' + Math.min(i, 8))).append(" 999 3;");
        }
        return text + "turns 99 0 0 99;";
    }

    private static void theLargestNetwork() {
        SnowPlough p = Check.loaded(line() + "depot j;");
        Check.is("7", 10, p.nodeCount());
        Check.is("8", 12, p.roadCount());
        Check.is("10", 0xffffff, p.arcs());
        Check.is("23", 0xffffff, p.requiredArcs(3));
        Check.is("29", 9, p.position());
        Check.is("11 arc 23", 9, p.arcStart(23));
        Check.is("12 arc 23", 8, p.arcEnd(23));
        Check.is("13 arc 23", 999, p.arcLength(23));
        Check.is("14 arc 23", 3, p.arcClass(23));
        Check.noIndex("11 arc 24", () -> p.arcStart(24));
        Check.noIndex("20 node 10", () -> p.reachable(10));
        Check.noIndex("58 road 12", () -> p.isCritical(12));
        Check.is("15 the last two", 3, p.turn(22, 23));
        Check.is("18 from end to end", 9 * 999 + 8 * 99, p.pathCost(0, 9));
        Check.is("18 and back", 9 * 999 + 8 * 99, p.pathCost(9, 0));
        for (int i = 0; i < 9; i++) {
            Check.is("19 arc " + i, 2 * i, p.pathArc(0, 9, i));
            Check.is("19 arc " + i + " back", 17 - 2 * i, p.pathArc(9, 0, i));
        }
        Check.noElement("19 arc 9", () -> p.pathArc(0, 9, 9));
        Check.is("17 from the first arc to the last", 9 * 1098, p.routeCost(0, 23));
        Check.is("20", 0x3ff, p.reachable(9));
        Check.is("21", true, p.isStronglyConnected());
        Check.is("22", 0, p.imbalance(9));
        Check.is("56", 9 * 999 + 8 * 99, p.eccentricity(9));
        Check.is("57 the lower of two", 4, p.centre());
        Check.is("58 a road of the line", true, p.isCritical(0));
        Check.is("58 one of four", false, p.isCritical(11));
        Check.is("36", 0, p.totalSnow());
        Check.is("40 from end to end", 9 * 999 + 8 * 99, p.driveTo(0, true));
        Check.is("46", 8, p.turnsMade(0));
        // Each road back at once, for the lower number: then 8 times over a road again to the next one, and 8 back home.
        Check.is("26 all arcs", 24 * 999 + 23 * 99 + 16 * 1098, Check.loaded(line()).greedyTour(3));
    }

    private static void aSingleNode() {
        SnowPlough p = Check.loaded("node a 99 99;");
        Check.is("18", 0, p.pathCost(0, 0));
        Check.is("20", 1, p.reachable(0));
        Check.is("21", true, p.isStronglyConnected());
        Check.is("22", 0, p.imbalance(0));
        Check.is("56", 0, p.eccentricity(0));
        Check.is("57", 0, p.centre());
        Check.is("63", 0, p.pathTime(0));
        Check.is("49", 0, p.planTime(1, true));
        Check.is("42", 0, p.refill());
        Check.is("60", 0, p.planTurns(3, 3));
        SnowPlough q = Check.loaded("node a 99 99;node b 0 0;");
        Check.is("18 two of them", -1, q.pathCost(0, 1));
        Check.is("20 two of them", 2, q.reachable(1));
        Check.is("21 two of them", false, q.isStronglyConnected());
        Check.is("56 two of them", -1, q.eccentricity(1));
        Check.is("57 two of them", -1, q.centre());
        SnowPlough none = new SnowPlough();
        Check.is("7 without nodes", 0, none.nodeCount());
        Check.is("21 without nodes", true, none.isStronglyConnected());
        Check.is("57 without nodes", -1, none.centre());
        Check.is("10 without nodes", 0, none.arcs());
    }

    /** A turn is straight or a U-turn only if cross is 0; one more or less is a left or a right turn. */
    private static void turnsByAHair() {
        int[][] cases = {{0, 0, 49, 48, 99, 97, 2}, {0, 0, 50, 49, 99, 97, 1}, {0, 0, 33, 33, 99, 99, 0},
                {0, 0, 99, 99, 98, 98, 3}, {0, 0, 99, 99, 1, 0, 1}, {0, 0, 99, 99, 0, 1, 2}, {0, 0, 1, 0, 99, 0, 0},
                {99, 0, 98, 0, 0, 0, 0}, {0, 0, 99, 0, 98, 0, 3}, {5, 5, 5, 6, 5, 99, 0}, {5, 5, 5, 6, 5, 0, 3},
                {5, 5, 5, 6, 4, 6, 2}, {5, 5, 5, 6, 6, 6, 1}, {5, 5, 5, 6, 99, 5, 1}, {5, 5, 5, 6, 0, 5, 2},
                {0, 99, 99, 0, 0, 98, 1}, {0, 99, 99, 0, 1, 99, 2}, {99, 0, 0, 99, 99, 1, 1}, {99, 99, 0, 0, 98, 99, 1}};
        for (int[] c : cases) {
            SnowPlough p = Check.loaded("node a " + c[0] + " " + c[1] + ";node b " + c[2] + " " + c[3] + ";node c " + c[4]
                    + " " + c[5] + ";road r a b 1 1;road s b c 1 1;turns 10 20 30 40;");
            Check.is("15 " + java.util.Arrays.toString(c), c[6], p.turn(0, 2));
            Check.is("17 " + java.util.Arrays.toString(c), 11 + 10 * c[6], p.routeCost(0, 2));
            // Back along both, a left turn is a right one.
            Check.is("15 back", c[6] == 1 ? 2 : c[6] == 2 ? 1 : c[6], p.turn(3, 1));
        }
    }

    private static void turnsAround() {
        SnowPlough p = Check.loaded(TWO + "road r a b 1 1;road s a b 1 1;road t b a 1 1 oneway;");
        Check.is("15 the same road back", 3, p.turn(0, 1));
        Check.is("15 another road back", 3, p.turn(0, 3));
        Check.is("15 a oneway road back", 3, p.turn(0, 4));
        Check.noArgument("15 the same arc again", () -> p.turn(0, 0));
        Check.noArgument("15 beside it", () -> p.turn(0, 2));
        Check.noIndex("15 the oneway road has none back", () -> p.turn(0, 5));
        for (int kind = 0; kind < 4; kind++) {
            Check.is("16 kind " + kind, new int[] {0, 2, 5, 20}[kind], p.turnCost(kind));
        }
        SnowPlough q = Check.loaded("turns 99 0 99 0;");
        Check.is("16 the most", 99, q.turnCost(0));
        Check.is("16 the least", 0, q.turnCost(1));
        Check.is("16 the most", 99, q.turnCost(2));
        Check.is("16 the least", 0, q.turnCost(3));
    }

    private static void routesWithTheirTurns() {
        SnowPlough p = Check.loaded(TWO + "node c 2 0;road r a b 10 1;road s b c 7 1 oneway;");
        Check.is("17 an arc after itself is no route", 0, p.routeCost(0, 0));
        Check.is("17 straight on", 7, p.routeCost(0, 2));
        Check.is("17 a U-turn", 30, p.routeCost(0, 1));
        Check.is("17 two U-turns", 57, p.routeCost(1, 2) + 20);
        Check.is("17 none", -1, p.routeCost(2, 0));
        Check.is("18 no turn at first", 17, p.pathCost(0, 2));
        Check.is("18 none", -1, p.pathCost(2, 0));
        Check.is("18 the same node, without a way back", 0, p.pathCost(2, 2));
        // The shorter way has the dearer turns: 1 + 5 + 1 against 6, 7 and 8.
        for (int length = 6; length <= 8; length++) {
            SnowPlough q = Check.loaded("node a 0 0;node b 1 0;node c 1 1;road r a b 1 1;road s b c 1 1;road t a c "
                    + length + " 1;");
            Check.is("18 length " + length, Math.min(7, length), q.pathCost(0, 2));
            Check.is("19 length " + length, length < 7 ? 4 : 0, q.pathArc(0, 2, 0));
        }
    }

    /** The dear arc has the higher number than the cheap one beside it, and the arcs behind both have higher ones still. */
    private static void theCheapWayIsFoundLate() {
        String ends = "road z c d 1 1 oneway;road w d e 1 1 oneway;";
        String nodes = TWO + "node c 2 0;node d 3 0;node e 4 0;road s a b 1 1 oneway;";
        SnowPlough p = Check.loaded(nodes + "road y b c 1 1 oneway;road x b c 9 1 oneway;" + ends);
        Check.is("18", 4, p.pathCost(0, 4));
        Check.is("17", 3, p.routeCost(0, 8));
        path(p, 0, 4, 0, 2, 6, 8);
        SnowPlough q = Check.loaded(nodes + ends + "road x b c 9 1 oneway;road y b c 1 1 oneway;");
        Check.is("18", 4, q.pathCost(0, 4));
        path(q, 0, 4, 0, 8, 2, 4);
    }

    /** 'Of two routes of equal cost the one with the lexicographically smaller sequence of arc numbers is better.' */
    private static void equalCosts() {
        String square = "node a 0 0;node b 1 0;node c 0 1;node d 1 1;turns 5 5 5 5;";
        SnowPlough p = Check.loaded(square + "road p c d 1 1;road q a b 1 1;road r b d 1 1;road s a c 1 1;");
        path(p, 0, 3, 2, 4);
        path(p, 3, 0, 1, 7);
        SnowPlough q = Check.loaded(square + "road t a d 7 1;road p c d 1 1;road q a b 1 1;road r b d 1 1;road s a c 1 1;");
        Check.is("18 three ways", 7, q.pathCost(0, 3));
        path(q, 0, 3, 0);
        path(q, 3, 0, 1);
        SnowPlough r = Check.loaded(square + "road p c d 1 1;road q a b 1 1;road r b d 1 1;road s a c 1 1;road t a d 7 1;");
        path(r, 0, 3, 2, 4);
        path(r, 3, 0, 1, 7);
        SnowPlough s = Check.loaded(square + "road p c d 1 1;road q a b 1 1;road r b d 1 1;road s a c 1 1;road t a d 6 1;");
        path(s, 0, 3, 8);
        // The first arcs are the same: the second ones decide.
        SnowPlough t = Check.loaded("node a 0 0;node b 1 0;node c 2 0;road u b c 3 1;road v b c 3 1;road w a b 1 1;");
        path(t, 0, 2, 4, 0);
        path(t, 2, 0, 1, 5);
    }

    private static void path(SnowPlough p, int from, int to, int... arcs) {
        for (int i = 0; i < arcs.length; i++) {
            Check.is("19 arc " + i + " from " + from + " to " + to, arcs[i], p.pathArc(from, to, i));
        }
        Check.noElement("19 behind it", () -> p.pathArc(from, to, arcs.length));
    }

    private static void indexesOfAPath() {
        SnowPlough p = Check.loaded(TWO + "node c 2 0;road r a b 10 1;road s b c 7 1 oneway;");
        path(p, 0, 1, 0);
        path(p, 0, 2, 0, 2);
        path(p, 1, 2, 2);
        path(p, 1, 0, 1);
        path(p, 2, 2);
        path(p, 2, 0);
        path(p, 2, 1);
        path(p, 0, 0);
        for (int index : new int[] {-1, 2, Integer.MIN_VALUE, Integer.MAX_VALUE}) {
            Check.noElement("19 index " + index, () -> p.pathArc(0, 2, index));
            Check.noIndex("19 no node, index " + index, () -> p.pathArc(0, 3, index));
            Check.noIndex("19 no node, index " + index, () -> p.pathArc(-1, 0, index));
        }
    }

    /** 'the node included', and only against no arrow. */
    private static void reachableSets() {
        SnowPlough p = Check.loaded(TWO + "node c 2 0;node d 3 0;road r d c 1 1 oneway;road s c b 1 1 oneway;");
        int[] sets = {0b0001, 0b0010, 0b0110, 0b1110};
        for (int node = 0; node < 4; node++) {
            Check.is("20 node " + node, sets[node], p.reachable(node));
        }
        Check.is("21", false, p.isStronglyConnected());
        SnowPlough q = Check.loaded(TWO + "node c 2 0;road r c b 1 1 oneway;road s b a 1 1 oneway;road t a c 1 1 oneway;");
        for (int node = 0; node < 3; node++) {
            Check.is("20 around, node " + node, 7, q.reachable(node));
        }
        Check.is("21 around", true, q.isStronglyConnected());
        Check.is("21 from one to all, but not back", false, Check.loaded(TWO + "road r a b 1 1 oneway;").isStronglyConnected());
        Check.is("21 from all to one, but not back", false, Check.loaded(TWO + "road r b a 1 1 oneway;").isStronglyConnected());
    }

    private static void imbalances() {
        SnowPlough p = Check.loaded(TWO + "node c 2 0;road r a b 1 1 oneway;road s a b 1 1 oneway;road t a c 1 1 oneway;"
                + "road u b c 1 1;");
        Check.is("22 begins", 3, p.imbalance(0));
        Check.is("22 ends", -2, p.imbalance(1));
        Check.is("22 ends", -1, p.imbalance(2));
        StringBuilder text = new StringBuilder(TWO);
        for (int i = 0; i < 12; i++) {
            text.append("road ").append((char) ('a' + i)).append(" a b 1 1 oneway;");
        }
        Check.is("22 the most", 12, Check.loaded(text.toString()).imbalance(0));
        Check.is("22 the least", -12, Check.loaded(text.toString()).imbalance(1));
        Check.is("10 every other", 0x555555, Check.loaded(text.toString()).arcs());
    }

    /** 'a route that begins with an arc and ends at the node where this arc begins', 'the length of the arc included' */
    private static void cycles() {
        SnowPlough p = Check.loaded(TWO + "road r a b 10 1;road s b a 3 1 oneway;");
        Check.is("55 there, and the shorter road back", 10 + 20 + 3, p.cycleCost(0));
        Check.is("55 back, and there", 10 + 20 + 10, p.cycleCost(1));
        Check.is("55 the oneway road, and there", 3 + 20 + 10, p.cycleCost(2));
        SnowPlough q = Check.loaded(TWO + "node c 1 1;road r a b 1 1 oneway;road s b c 2 1 oneway;road t c a 4 1 oneway;");
        Check.is("55 the last turn does not count", 7 + 2 * 5, q.cycleCost(0));
        Check.is("55 wherever it begins", 7 + 2 * 5, q.cycleCost(2));
        SnowPlough r = Check.loaded(TWO + "road r a b 1 1 oneway;");
        Check.is("55 none", -1, r.cycleCost(0));
    }

    private static void eccentricitiesAndCentres() {
        SnowPlough p = Check.loaded(TWO + "node c 2 0;road r a b 4 1;road s b c 5 1;");
        Check.is("56 a", 9, p.eccentricity(0));
        Check.is("56 b", 5, p.eccentricity(1));
        Check.is("56 c", 9, p.eccentricity(2));
        Check.is("57", 1, p.centre());
        SnowPlough q = Check.loaded(TWO + "node c 2 0;road r b a 4 1 oneway;road s b c 5 1 oneway;");
        Check.is("56 not all", -1, q.eccentricity(0));
        Check.is("56 all", 5, q.eccentricity(1));
        Check.is("56 not all", -1, q.eccentricity(2));
        Check.is("57 the only one", 1, q.centre());
        Check.is("57 none", -1, Check.loaded(TWO + "node c 2 0;road r a b 4 1;").centre());
        Check.is("57 the lowest of equals", 0, Check.loaded(TWO + "road r a b 4 1;").centre());
        Check.is("57 one less", 1, Check.loaded(TWO + "road r a b 4 1 oneway;road s b a 3 1 oneway;").centre());
        Check.is("57 the highest node", 9, Check.loaded(star()).centre());
    }

    /** Nine nodes around the last one. */
    private static String star() {
        StringBuilder text = new StringBuilder();
        for (int i = 0; i < 9; i++) {
            text.append("node ").append((char) ('a' + i)).append(' ').append(10 * i).append(" 0;");
        }
        text.append("node j 40 40;");
        for (int i = 0; i < 9; i++) {
            text.append("road ").append((char) ('a' + i)).append(" j ").append((char) ('a' + i)).append(" 5 1;");
        }
        return text.toString();
    }

    /** 'every node can be reached from every node, but not without the arcs of this road' */
    private static void criticalRoads() {
        SnowPlough p = Check.loaded(TWO + "road r a b 1 1;road s b a 1 1 oneway;");
        Check.is("58 the only way there", true, p.isCritical(0));
        Check.is("58 another way back", false, p.isCritical(1));
        SnowPlough q = Check.loaded(TWO + "node c 5 5;road r a b 1 1;");
        Check.is("58 not connected with it either", false, q.isCritical(0));
        SnowPlough r = Check.loaded(TWO + "road r a b 1 1 oneway;road s b a 1 1 oneway;");
        Check.is("58 there", true, r.isCritical(0));
        Check.is("58 back", true, r.isCritical(1));
        Check.noIndex("58 no road", () -> r.isCritical(2));
        Check.noIndex("58 no road", () -> r.isCritical(-1));
        SnowPlough s = Check.loaded(star());
        Check.is("58 the last road", true, s.isCritical(8));
        Check.noIndex("58 no road", () -> s.isCritical(9));
    }

    /** The longest roads and the dearest turns: the sums are far from every bound of the numbers. */
    private static void dearestRoutes() {
        SnowPlough p = Check.loaded(line().replace("turns 99 0 0 99", "turns 99 99 99 99"));
        Check.is("18", 9 * 999 + 8 * 99, p.pathCost(0, 9));
        Check.is("55 to the end and back", 2 * 999 + 99, p.cycleCost(0));
        Check.is("26", 24 * 999 + 23 * 99 + 16 * 1098, p.greedyTour(3));
        Check.is("59", 24 * (999 * 5 / 100), p.saltNeeded(3));
    }
}
