/** Section 4 and the promises on plans and tours: no, one, twelve and thirteen required arcs, and each tie. */
public final class PlanBoundsTest {
    private static final String TWO = "node a 0 0;node b 1 0;";

    public static void main(String[] args) {
        classesOrLess();
        emptyPlans();
        oneArc();
        noPlans();
        twelveOfEachClass();
        thirteen();
        otherArcsInBetween();
        smallestOrder();
        costIsTheSumOfItsRoutes();
        overheads();
        greedyTours();
        greedyTies();
        greedyWithoutAWay();
        planTimes();
        planTurns();
        saltNeeded();
        Check.end("PlanBoundsTest");
    }

    private static void plan(SnowPlough p, int roadClass, int cost, int... arcs) {
        Check.is("24 class " + roadClass, cost, p.planCost(roadClass));
        for (int i = 0; i < arcs.length; i++) {
            Check.is("25 class " + roadClass + " arc " + i, arcs[i], p.planArc(roadClass, i));
        }
        for (int index : new int[] {arcs.length, arcs.length + 1, 12, -1, Integer.MIN_VALUE, Integer.MAX_VALUE}) {
            Check.noElement("25 class " + roadClass + " index " + index, () -> p.planArc(roadClass, index));
        }
    }

    /** 'all existing arcs of class c or less' */
    private static void classesOrLess() {
        SnowPlough p = Check.loaded(TWO + "road r a b 1 3;road s a b 1 1 oneway;road t b a 1 2;");
        Check.is("23 class 1", 0b000100, p.requiredArcs(1));
        Check.is("23 class 2", 0b110100, p.requiredArcs(2));
        Check.is("23 class 3", 0b110111, p.requiredArcs(3));
        SnowPlough q = Check.loaded(TWO + "road r a b 1 3;");
        Check.is("23 class 1", 0, q.requiredArcs(1));
        Check.is("23 class 2", 0, q.requiredArcs(2));
        Check.is("23 class 3", 3, q.requiredArcs(3));
    }

    /** 'Without required arcs the empty plan is the best one, and its cost is 0.' */
    private static void emptyPlans() {
        String[] texts = {"", "node a 0 0;", TWO, TWO + "road r a b 1 3;", TWO + "road r b a 1 2 oneway;depot b;"};
        for (String text : texts) {
            SnowPlough p = Check.loaded(text);
            plan(p, 1, 0);
            Check.is("26 " + text, 0, p.greedyTour(1));
            Check.is("27 " + text, 0, p.planOverhead(1));
            Check.is("59 " + text, 0, p.saltNeeded(1));
            Check.is("48 " + text, 0, p.untouched(1));
            for (int kind = 0; kind < 4; kind++) {
                Check.is("60 " + text, 0, p.planTurns(1, kind));
            }
            if (text.isEmpty()) {
                Check.noState("49 without nodes", () -> p.planTime(1, true));
            } else {
                Check.is("49 " + text, 0, p.planTime(1, true));
            }
        }
    }

    private static void oneArc() {
        SnowPlough p = Check.loaded(TWO + "road r a b 7 1 oneway;road s b a 5 3 oneway;");
        plan(p, 1, 7 + 20 + 5, 0);
        Check.is("27", 25, p.planOverhead(1));
        Check.is("26", 32, p.greedyTour(1));
        SnowPlough q = Check.loaded(TWO + "road r a b 7 3 oneway;road s b a 5 1 oneway;");
        plan(q, 1, 7 + 20 + 5, 2);
        Check.is("27", 27, q.planOverhead(1));
        Check.is("49", 32, q.planTime(1, true));
    }

    /** 'A plan exists if all these routes exist': to the first arc, from each to the next, and back. */
    private static void noPlans() {
        String[] texts = {TWO + "road r a b 1 1 oneway;", TWO + "road r b a 1 1 oneway;",
                TWO + "node c 2 0;road r b c 1 1;", TWO + "node c 2 0;road r a b 1 3;road s b c 1 1 oneway;",
                TWO + "node c 2 0;node d 3 0;road r a b 1 1;road s c d 1 1;",
                TWO + "node c 2 0;road r a b 1 1 oneway;road s a c 1 1 oneway;"};
        for (String text : texts) {
            SnowPlough p = Check.loaded(text);
            plan(p, 1, -1);
            Check.is("26 " + text, -1, p.greedyTour(1));
            Check.is("27 " + text, -1, p.planOverhead(1));
            Check.is("49 " + text, -1, p.planTime(1, true));
            for (int kind = 0; kind < 4; kind++) {
                Check.is("60 " + text, -1, p.planTurns(1, kind));
            }
        }
        // Each arc lies on a way from the depot and back, but none leads from one to the other.
        SnowPlough p = Check.loaded(TWO + "road r a b 2 1;depot b;");
        plan(p, 1, 2 + 20 + 2, 1, 0);
    }

    private static String parallel(int roads, int roadClass, String rest) {
        StringBuilder text = new StringBuilder(TWO + "turns 0 0 0 0;");
        for (int i = 0; i < roads; i++) {
            text.append("road ").append((char) ('a' + i)).append(" a b ").append(i + 1).append(' ').append(roadClass)
                    .append(';');
        }
        return text + rest;
    }

    /** 'Plans are computed only if there are at most 12 required arcs': twelve still are, for each class. */
    private static void twelveOfEachClass() {
        for (int roadClass = 1; roadClass <= 3; roadClass++) {
            SnowPlough p = Check.loaded(parallel(6, roadClass, ""));
            for (int c = 1; c <= 3; c++) {
                if (c < roadClass) {
                    plan(p, c, 0);
                } else {
                    plan(p, c, 42, 0, 1, 2, 3, 4, 5, 6, 7, 8, 9, 10, 11);
                    Check.is("27", 0, p.planOverhead(c));
                    Check.is("60", 11, p.planTurns(c, 3));
                    Check.is("49", 42, p.planTime(c, true));
                }
            }
        }
        SnowPlough one = Check.loaded(parallel(5, 1, "road m a b 9 2 oneway;road n b a 9 3 oneway;"));
        plan(one, 1, 30, 0, 1, 2, 3, 4, 5, 6, 7, 8, 9);
        plan(one, 2, 40, 0, 1, 2, 3, 4, 5, 6, 7, 8, 9, 10);
        plan(one, 3, 48, 0, 1, 2, 3, 4, 5, 6, 7, 8, 9, 10, 12);
        oneway();
    }

    /** Twelve roads with the highest number of an arc that a plan may have: 22. */
    private static void oneway() {
        StringBuilder text = new StringBuilder(TWO + "turns 0 0 0 0;");
        for (int i = 0; i < 12; i++) {
            text.append("road ").append((char) ('a' + i)).append(i % 2 == 0 ? " a b 1 3" : " b a 1 3").append(" oneway;");
        }
        plan(Check.loaded(text.toString()), 3, 12, 0, 2, 4, 6, 8, 10, 12, 14, 16, 18, 20, 22);
        Check.is("26", 12, Check.loaded(text.toString()).greedyTour(3));
        Check.is("26 all 24 arcs", 2 * 78, Check.loaded(parallel(12, 3, "")).greedyTour(3));
    }

    private static void thirteen() {
        SnowPlough p = Check.loaded(parallel(6, 2, "road m a b 9 3 oneway;"));
        Check.is("23", 0x1fff, p.requiredArcs(3));
        Check.is("24 twelve", 42, p.planCost(2));
        Check.noState("24 thirteen", () -> p.planCost(3));
        Check.noState("25 thirteen", () -> p.planArc(3, 0));
        Check.noState("27 thirteen", () -> p.planOverhead(3));
        Check.noState("49 thirteen", () -> p.planTime(3, true));
        Check.noState("60 thirteen", () -> p.planTurns(3, 0));
        Check.is("26 thirteen, and a way back", 42 + 9 + 1, p.greedyTour(3));
        Check.is("59 thirteen", 0, p.saltNeeded(3));
        Check.is("34 thirteen", 0, p.deepestArc(3));
        Check.is("48 thirteen", 0x1fff, p.untouched(3));
        Check.is("64 thirteen", 0, p.meanDepth(3));
        // Without a plan too there are too many.
        SnowPlough q = Check.loaded(parallel(6, 1, "node c 5 5;road m b c 9 1 oneway;"));
        Check.noState("24 thirteen", () -> q.planCost(1));
        Check.noArgument("24 no class", () -> q.planCost(4));
        Check.noArgument("24 no class", () -> q.planCost(0));
    }

    /** 'any arcs, also required ones, may occur before, between and after them' */
    private static void otherArcsInBetween() {
        SnowPlough p = Check.loaded("node a 0 0;node b 1 0;node c 2 0;node d 3 0;road r a b 10 1 oneway;road s b c 20 3;"
                + "road t c d 30 1;road u b a 40 3 oneway;turns 0 0 0 1;");
        // 0, 2, 4, U, 5, 3, 6: arc 4 and arc 5 are required, arcs 2 and 3 only lead there.
        plan(p, 1, 10 + 20 + 30 + 1 + 30 + 20 + 40, 0, 4, 5);
        Check.is("27", 81, p.planOverhead(1));
        Check.is("60 straight on", 4, p.planTurns(1, 0));
        Check.is("60 U-turns", 1, p.planTurns(1, 3));
        Check.is("49", 151, p.planTime(1, false));
        SnowPlough q = Check.loaded(Worked.BASE);
        plan(q, 3, 1242, 0, 2, 4, 3, 1);
    }

    /** 'of several the lexicographically smallest order is the best one' */
    private static void smallestOrder() {
        plan(Check.loaded(TWO + "road r a b 1 1;road s a b 1 1;turns 0 0 0 0;"), 1, 4, 0, 1, 2, 3);
        plan(Check.loaded(TWO + "road r b a 1 1;road s a b 1 1;turns 0 0 0 0;"), 1, 4, 1, 0, 2, 3);
        plan(Check.loaded(TWO + "node c 0 1;road r a b 1 1;road s c a 1 1;turns 0 0 0 0;"), 1, 4, 0, 1, 3, 2);
        plan(Check.loaded(TWO + "road r a b 1 1 oneway;road s a b 1 1 oneway;road t b a 1 1 oneway;road u b a 1 1 oneway;"), 1,
                4 + 60, 0, 4, 2, 6);
        // One less in the other order is enough.
        plan(Check.loaded(TWO + "node c 0 1;node d 1 1;road r a b 5 1 oneway;road s b d 5 3 oneway;road t d c 5 1 oneway;"
                + "road u c a 5 3 oneway;turns 0 0 0 0;"), 1, 20, 0, 4);
        plan(Check.loaded(TWO + "node c 0 1;node d 1 1;road t d c 5 1 oneway;road r a b 5 1 oneway;road s b d 5 3 oneway;"
                + "road u c a 5 3 oneway;turns 0 0 0 0;"), 1, 20, 2, 0);
    }

    /** The best of all orders, with the sum of section 4 from routeCost() and pathCost() alone. */
    private static void costIsTheSumOfItsRoutes() {
        String[] texts = {Worked.BASE, Worked.BASE + "turns 9 8 7 6;depot c;", Worked.BASE + "turns 0 0 0 0;depot b;",
                parallel(2, 1, "road m b a 9 3 oneway;"), TWO + "node c 0 1;road r a b 2 1;road s c a 2 2 oneway;road t a c 2 3;"};
        for (String text : texts) {
            for (int c = 1; c <= 3; c++) {
                SnowPlough p = Check.loaded(text);
                readTables(p);
                best = Integer.MAX_VALUE;
                tryAll(p.requiredArcs(c), new int[0], 0);
                plan(p, c, best, bestOrder);
            }
        }
    }

    private static final int[][] BETWEEN = new int[24][24];
    private static final int[] FROM_DEPOT = new int[24];
    private static final int[] TO_DEPOT = new int[24];
    private static int best;
    private static int[] bestOrder;

    /** The plough is at the depot: it has not driven yet. */
    private static void readTables(SnowPlough p) {
        int arcs = p.arcs();
        int depot = p.position();
        java.util.Arrays.fill(FROM_DEPOT, Integer.MAX_VALUE);
        java.util.Arrays.fill(TO_DEPOT, Integer.MAX_VALUE);
        for (int from = 0; from < 24; from++) {
            for (int to = 0; to < 24; to++) {
                if ((arcs >> from & arcs >> to & 1) != 0) {
                    int cost = p.routeCost(from, to);
                    BETWEEN[from][to] = cost;
                    if (p.arcStart(from) == depot) {
                        FROM_DEPOT[to] = Math.min(FROM_DEPOT[to], p.arcLength(from) + cost);
                    }
                    if (p.arcEnd(to) == depot) {
                        TO_DEPOT[from] = Math.min(TO_DEPOT[from], cost);
                    }
                }
            }
        }
    }

    private static void tryAll(int missing, int[] order, int cost) {
        int length = order.length;
        if (missing == 0 && cost + TO_DEPOT[order[length - 1]] < best) {
            best = cost + TO_DEPOT[order[length - 1]];
            bestOrder = order;
        }
        for (int arc = 0; arc < 24; arc++) {
            if ((missing >> arc & 1) != 0) {
                int way = length == 0 ? FROM_DEPOT[arc] : BETWEEN[order[length - 1]][arc];
                int[] longer = java.util.Arrays.copyOf(order, length + 1);
                longer[length] = arc;
                tryAll(missing & ~(1 << arc), longer, cost + way);
            }
        }
    }

    private static void overheads() {
        Check.is("27 none", 0, Check.loaded(TWO + "road r a b 9 1;turns 0 0 0 0;").planOverhead(1));
        Check.is("27 one turn", 1, Check.loaded(TWO + "road r a b 9 1;turns 0 0 0 1;").planOverhead(1));
        Check.is("27 others", 10 + 9, Check.loaded(TWO + "road r a b 9 1 oneway;road s b a 9 2;turns 0 0 0 10;")
                .planOverhead(1));
        Check.is("27 the dearest", 99, Check.loaded(TWO + "road r a b 999 1;turns 99 99 99 99;").planOverhead(1));
    }

    /** The turn from the last arc of the tour counts, also on the way back; all arcs of a route are contained then. */
    private static void greedyTours() {
        SnowPlough p = Check.loaded(TWO + "road r a b 10 1;");
        Check.is("26 there, a turn, and back", 10 + 20 + 10, p.greedyTour(1));
        SnowPlough q = Check.loaded(TWO + "node c 2 0;road r a b 10 2;road s b c 10 1;");
        // 0 2, a U-turn, 3, and home over 1.
        Check.is("26 class 1", 10 + 10 + 20 + 10 + 10, q.greedyTour(1));
        // 0, a U-turn, 1, a U-turn, 0 again and 2, a U-turn, 3 and 1: or straight on first, for the turn costs 20.
        Check.is("26 class 2", 10 + 10 + 20 + 10 + 10, q.greedyTour(2));
        Check.is("26 the depot is elsewhere", 20 + 20 + 20, Check.loaded(TWO + "node c 2 0;road r a b 10 2;road s b c 10 1;"
                + "depot c;").greedyTour(2));
        SnowPlough r = Check.loaded(TWO + "node c 2 0;road r a b 10 2 oneway;road s b c 10 2 oneway;road t c a 10 1 oneway;"
                + "turns 1 1 1 50;");
        Check.is("26 arcs on the way", 10 + 1 + 10 + 50 + 10, r.greedyTour(1));
        Check.is("26 they need not be driven again", 10 + 1 + 10 + 50 + 10, r.greedyTour(2));
        greedyIsNotBest();
    }

    private static void greedyIsNotBest() {
        SnowPlough p = Check.loaded(Worked.BASE);
        Check.is("26 greedily", 867, p.greedyTour(2));
        Check.is("24 at best", 627, p.planCost(2));
        // Its end, not the plough's place, is where the tour begins and ends; nothing that was driven counts.
        p.drive(0, true);
        Check.is("26 wherever the plough is", 867, p.greedyTour(2));
        Check.is("24 wherever the plough is", 627, p.planCost(2));
        Check.is("60 wherever the plough is", 1, p.planTurns(1, 3));
    }

    /** 'the one with the least cost is taken, of equal costs the lowest one' */
    private static void greedyTies() {
        String text = "node a 0 0;node b 10 0;node c 0 10;turns 0 0 0 0;";
        // Equal: r first, then s. Behind r the one way home is t, behind s it is u.
        String home = "road t b a 30 3 oneway;road u c a 40 3 oneway;";
        int[][] cases = {{5, 5, 5 + 30 + 5 + 40}, {5, 6, 5 + 30 + 6 + 40}, {6, 5, 5 + 40 + 6 + 30}};
        for (int[] c : cases) {
            Check.is("26 " + c[0] + " and " + c[1], c[2], Check.loaded(text + "road r a b " + c[0] + " 1 oneway;road s a c "
                    + c[1] + " 1 oneway;" + home).greedyTour(1));
        }
        // The order matters: the second arc can only be had behind the first one at once, for 1, or by a long way.
        String order = "node a 0 0;node b 10 0;node c 20 0;node d 0 10;road p a b 5 1 oneway;road q a d 5 1 oneway;"
                + "road x b c 1 1 oneway;road y c a 7 3 oneway;road z d a 9 3 oneway;turns 0 0 0 0;";
        Check.is("26 the lowest first", 5 + 1 + 7 + 5 + 9, Check.loaded(order).greedyTour(1));
        String swapped = "node a 0 0;node b 10 0;node d 0 10;road q a d 5 1 oneway;road p a b 5 1 oneway;road y b d 1 1 oneway;"
                + "road z d a 9 3 oneway;turns 0 0 0 0;";
        // 0 first: home over z, then 2 and 4, and home.
        Check.is("26 the lowest first", 5 + 9 + 5 + 1 + 9, Check.loaded(swapped).greedyTour(1));
        String other = "node a 0 0;node b 10 0;node d 0 10;road p a b 5 1 oneway;road q a d 5 1 oneway;road y d b 1 1 oneway;"
                + "road z b a 9 3 oneway;turns 0 0 0 0;";
        Check.is("26 the lowest first", 5 + 9 + 5 + 1 + 9, Check.loaded(other).greedyTour(1));
    }

    /** 'NONE if a required arc or finally the depot cannot be reached' */
    private static void greedyWithoutAWay() {
        Check.is("26 no required arc is reached", -1, Check.loaded(TWO + "road r b a 1 1 oneway;").greedyTour(1));
        Check.is("26 not the second one", -1, Check.loaded(TWO + "node c 2 0;road r a b 1 1;road s c b 1 1 oneway;")
                .greedyTour(1));
        Check.is("26 not the depot", -1, Check.loaded(TWO + "road r a b 1 1 oneway;").greedyTour(1));
        Check.is("26 not the depot at last", -1, Check.loaded(TWO + "node c 2 0;road r a b 1 1;road s b c 1 1 oneway;")
                .greedyTour(1));
        Check.is("24 nor a plan", -1, Check.loaded(TWO + "node c 2 0;road r a b 1 1;road s b c 1 1 oneway;").planCost(1));
        Check.is("26 not required", 22, Check.loaded(TWO + "node c 2 0;road r a b 1 1;road s b c 1 3 oneway;").greedyTour(2));
        Check.is("26 it ends at the depot", 1 + 20 + 1, Check.loaded(TWO + "road r a b 1 1;").greedyTour(1));
    }

    private static void planTimes() {
        SnowPlough p = Check.loaded(TWO + "road r a b 100 1;snow r 50;fall 36;");
        // 150; at 150 arc 1 is 51 deep: a U-turn and 151.
        Check.is("49", 150 + 20 + 151, p.planTime(1, false));
        Check.is("49 salt takes no time", 150 + 20 + 151, p.planTime(1, true));
        p.drive(0, false);
        // Home first: 20 + 151 until 321; arc 0 is 1 deep: 20 + 101 until 442; arc 1 is 1 deep: 20 + 101.
        Check.is("49 it begins where it is", 171 + 121 + 121, p.planTime(1, false));
        // With salt on arc 1 it is clean in the end.
        Check.is("49 arcs on the way are salted", 171 + 121 + 120, p.planTime(1, true));
        Check.is("28 nothing has happened", 150, p.time());
        Check.is("31 nothing has happened", 500, p.saltLeft());
        SnowPlough q = Check.loaded(TWO + "road r a b 100 1;salt 39;fall 36;");
        q.drive(0, false);
        // Arc 1 takes 20 of 39; arc 0 is not salted then, and neither is arc 1 again.
        Check.is("49 with too little salt", 121 + 121 + 120, q.planTime(1, true));
        Check.is("49 without salt", 121 + 121 + 121, q.planTime(1, false));
        lostOnTheWay();
        drivesAsDriveToDoes();
    }

    /** To the next arc it takes the best route between two nodes, though the turn before that one costs 99. */
    private static void drivesAsDriveToDoes() {
        SnowPlough p = Check.loaded("node a 0 0;node b 10 0;node c 0 10;road x a b 1 1 oneway;road v b a 1 3 oneway;"
                + "road y a c 1 3 oneway;road z b c 5 3 oneway;road w c a 1 1 oneway;turns 0 0 0 99;");
        plan(p, 1, 1 + 5 + 1, 0, 8);
        Check.is("60 no U-turn", 0, p.planTurns(1, 3));
        Check.is("49 two U-turns", 1 + 99 + 1 + 1 + 99 + 1, p.planTime(1, true));
    }

    private static void lostOnTheWay() {
        SnowPlough p = Check.loaded(TWO + "node c 2 0;road r a b 10 1;road s b c 10 3 oneway;");
        Check.is("49 there is a plan", 40, p.planTime(1, true));
        p.driveTo(2, true);
        Check.is("24 there still is", 40, p.planCost(1));
        Check.is("49 but its first arc is not reached", -1, p.planTime(1, true));
        Check.is("49 nor is the depot, for the empty plan", -1,
                lostWithoutAPlan().planTime(1, true));
        Check.is("49 at the depot the empty plan takes nothing", 0, Check.loaded(TWO + "road r a b 10 3 oneway;").planTime(1, true));
    }

    private static SnowPlough lostWithoutAPlan() {
        SnowPlough p = Check.loaded(TWO + "road r a b 10 3 oneway;");
        p.drive(0, true);
        return p;
    }

    /** 'The turn from one of these routes to the next one counts'; 'none if the tour is there already'. */
    private static void planTurns() {
        SnowPlough p = Check.loaded(TWO + "road r a b 10 1;");
        turns(p, 1, 0, 0, 0, 1);
        turns(Check.loaded(TWO + "road r a b 10 1;depot b;"), 1, 0, 0, 0, 1);
        // A block of four: no turn behind the last arc.
        turns(Check.loaded("node a 0 0;node b 1 0;node c 1 1;node d 0 1;road r a b 1 1 oneway;road s b c 1 1 oneway;"
                + "road t c d 1 1 oneway;road u d a 1 1 oneway;"), 1, 0, 0, 3, 0);
        turns(Check.loaded("node a 0 0;node b 1 0;node c 1 1;node d 0 1;road r a b 1 3 oneway;road s b c 1 3 oneway;"
                + "road t c d 1 1 oneway;road u d a 1 3 oneway;"), 1, 0, 0, 3, 0);
        turns(Check.loaded("node a 0 0;node d 0 1;node c 1 1;node b 1 0;road r a d 1 1 oneway;road s d c 1 2 oneway;"
                + "road t c b 1 1 oneway;road u b a 1 2 oneway;"), 1, 0, 3, 0, 0);
        turns(Check.loaded("node a 0 0;node b 5 0;node c 9 0;road r a b 1 2;road s b c 1 1;"), 1, 2, 0, 0, 1);
        SnowPlough worked = Check.loaded(TWO + "road r a b 10 1;");
        worked.drive(0, true);
        turns(worked, 1, 0, 0, 0, 1);
        turnsOfEqualRoutes();
    }

    /** From d to a over b, with a left and a right turn, costs as much as straight on over c: the lower arc decides. */
    private static void turnsOfEqualRoutes() {
        String before = "node a 0 0;node b 2 0;node c 1 1;node d 2 2;node e 5 5;turns 3 3 3 3;road t a e 9 1 oneway;"
                + "road u e d 1 1 oneway;";
        String left = "road v d b 1 3 oneway;";
        String straight = "road w d c 1 3 oneway;";
        String behind = "road x b a 1 3 oneway;road y c a 1 3 oneway;";
        turns(Check.loaded(before + left + straight + behind), 1, 0, 1, 1, 1);
        turns(Check.loaded(before + straight + left + behind), 1, 2, 0, 0, 1);
        // From e the same way lies between the two arcs of the plan instead of behind them.
        turns(Check.loaded(before + left + straight + behind + "depot e;"), 1, 0, 2, 1, 0);
        turns(Check.loaded(before + straight + left + behind + "depot e;"), 1, 2, 0, 0, 1);
        plan(Check.loaded(before + straight + left + behind + "depot e;"), 1, 1 + 4 + 4 + 12, 2, 0);
    }

    private static void turns(SnowPlough p, int roadClass, int... counts) {
        for (int kind = 0; kind < 4; kind++) {
            Check.is("60 class " + roadClass + " kind " + kind, counts[kind], p.planTurns(roadClass, kind));
        }
        for (int kind : new int[] {-1, 4}) {
            Check.noArgument("60 kind " + kind, () -> p.planTurns(roadClass, kind));
        }
    }

    private static void saltNeeded() {
        SnowPlough p = Check.loaded(TWO + "road r a b 99 1;road s a b 99 2 oneway;road t b a 99 3;spread 1 50 99;salt 0;");
        Check.is("59 each rounded down", 0, p.saltNeeded(1));
        Check.is("59 oneway once", 49, p.saltNeeded(2));
        Check.is("59 both ways twice", 49 + 2 * 98, p.saltNeeded(3));
        p.drive(0, true);
        Check.is("59 whatever has been driven", 49 + 2 * 98, p.saltNeeded(3));
    }
}
