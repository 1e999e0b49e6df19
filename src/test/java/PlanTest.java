/** Promises 23 to 27, 49, 59 and 60: plans and tours. */
public final class PlanTest {
    private static final String BASE = "node a 0 0;node b 10 0;node c 10 10;"
            + "road ab a b 100 1;road bc b c 200 2;road ca c a 300 3 oneway;";
    private static final String SQUARE = "node a 0 0;node b 1 0;node c 0 1;node d 1 1;"
            + "road p a b 1 1;road q a c 1 1;road r b d 1 1;road s c d 1 1;";

    public static void main(String[] args) {
        promise23();
        promises24And25();
        plansWithTies();
        promise26();
        promise27();
        promise49();
        promise59();
        promise60();
        manyArcs();
        wrongArguments();
        withoutNodes();
        afterUndo();
        Check.end("PlanTest");
    }

    private static void promise23() {
        SnowPlough p = Check.loaded(BASE);
        Check.is("23 class 1", 3, p.requiredArcs(1));
        Check.is("23 class 2", 15, p.requiredArcs(2));
        Check.is("23 class 3", 31, p.requiredArcs(3));
        Check.is("23 none", 0, Check.loaded("node a 0 0;node b 1 0;road x a b 1 3;").requiredArcs(2));
    }

    private static void promises24And25() {
        SnowPlough p = Check.loaded(BASE);
        plan(p, 1, 220, 0, 1);
        plan(p, 2, 627, 0, 2, 3, 1);
        plan(p, 3, 1242, 0, 2, 4, 3, 1);
        plan(Check.loaded(BASE + "depot c;"), 1, 627, 1, 0);
        plan(Check.loaded("node a 0 0;node b 1 0;road x a b 1 3;"), 2, 0);
        plan(Check.loaded("node a 0 0;"), 3, 0);
        plan(Check.loaded("node a 0 0;node b 1 0;road x a b 1 1 oneway;"), 1, -1);
        plan(Check.loaded("node a 0 0;node b 1 0;node c 2 0;road x b c 1 1;"), 1, -1);
        plan(Check.loaded("node a 0 0;node b 1 0;road x b a 1 1 oneway;"), 1, -1);
        plan(Check.loaded("node a 0 0;node b 1 0;road x a b 7 1 oneway;road y b a 5 2 oneway;"), 1, 32, 0);
    }

    private static void plan(SnowPlough p, int roadClass, int cost, int... arcs) {
        Check.is("24 class " + roadClass, cost, p.planCost(roadClass));
        for (int i = 0; i < arcs.length; i++) {
            Check.is("25 class " + roadClass + " arc " + i, arcs[i], p.planArc(roadClass, i));
        }
        Check.noElement("25 behind the plan", () -> p.planArc(roadClass, arcs.length));
        Check.noElement("25 before the plan", () -> p.planArc(roadClass, -1));
        Check.noElement("25 far away", () -> p.planArc(roadClass, Integer.MAX_VALUE));
        Check.noElement("25 far before", () -> p.planArc(roadClass, Integer.MIN_VALUE));
    }

    private static void plansWithTies() {
        SnowPlough p = Check.loaded("node a 0 0;node b 1 0;road x a b 1 1;road y a b 1 1;turns 0 0 0 0;");
        plan(p, 1, 4, 0, 1, 2, 3);
        SnowPlough q = Check.loaded("node a 0 0;node b 1 0;node c 0 1;road x a c 1 1;road y a b 1 1;turns 0 0 0 0;");
        plan(q, 1, 4, 0, 1, 2, 3);
        SnowPlough r = Check.loaded(SQUARE + "turns 0 0 0 0;");
        plan(r, 1, 8, 0, 1, 2, 6, 5, 4, 7, 3);
    }

    private static void promise26() {
        SnowPlough p = Check.loaded(BASE);
        Check.is("26 class 1", 220, p.greedyTour(1));
        Check.is("26 class 2", 867, p.greedyTour(2));
        Check.is("26 none", 0, Check.loaded("node a 0 0;node b 1 0;road x a b 1 3;").greedyTour(2));
        Check.is("26 not reached", -1, Check.loaded("node a 0 0;node b 1 0;road x b a 1 1 oneway;").greedyTour(1));
        Check.is("26 no way back", -1, Check.loaded("node a 0 0;node b 1 0;road x a b 1 1 oneway;").greedyTour(1));
        StringBuilder text = new StringBuilder("node a 0 0;node b 1 0;turns 0 0 0 0;");
        for (int i = 0; i < 12; i++) {
            text.append("road ").append((char) ('a' + i)).append(" a b 2 1;");
        }
        Check.is("26 more than 12 arcs", 48, Check.loaded(text.toString()).greedyTour(1));
    }

    private static void promise27() {
        SnowPlough p = Check.loaded(BASE);
        Check.is("27 class 1", 20, p.planOverhead(1));
        Check.is("27 class 2", 27, p.planOverhead(2));
        Check.is("27 class 3", 342, p.planOverhead(3));
        Check.is("27 none", -1, Check.loaded("node a 0 0;node b 1 0;road x a b 1 1 oneway;").planOverhead(1));
        Check.is("27 empty", 0, Check.loaded("node a 0 0;").planOverhead(1));
    }

    private static void promise49() {
        SnowPlough p = Check.loaded(BASE);
        Check.is("49 without snow", 220, p.planTime(1, false));
        Check.is("49 class 2", 627, p.planTime(2, true));
        Check.is("49 nothing changes", 0, p.time());
        Check.is("49 nothing is driven", 0, p.passes(0));
        Check.is("49 it cannot be undone", 1, p.undoCount());
        p.drive(0, false);
        // Back to the depot (20 + 100), a U-turn into arc 0, and another one into arc 1.
        Check.is("49 from where it is", 120 + 120 + 120, p.planTime(1, false));
        SnowPlough q = Check.loaded(BASE + "snow ab 50;snow bc 10;");
        Check.is("49 with snow", 150 + 20 + 150, q.planTime(1, false));
        SnowPlough r = Check.loaded("node a 0 0;node b 1 0;road x a b 1 1 oneway;");
        Check.is("49 no plan", -1, r.planTime(1, true));
        SnowPlough s = Check.loaded("node a 0 0;node b 1 0;node c 2 0;road x a b 10 1;road y a c 10 2 oneway;");
        Check.is("49 before it is lost", 10 + 20 + 10, s.planTime(1, true));
        s.drive(2, false);
        Check.is("49 the plan cannot be reached", -1, s.planTime(1, true));
        Check.is("24 but it exists", 40, s.planCost(1));
        SnowPlough t = Check.loaded("node a 0 0;node b 1 0;node c 2 0;road x a b 10 3;");
        Check.is("49 an empty plan at the depot", 0, t.planTime(1, true));
        t.drive(0, false);
        Check.is("49 an empty plan elsewhere", 30, t.planTime(1, true));
        SnowPlough u = Check.loaded("node a 0 0;node b 1 0;road x a b 10 3 oneway;");
        u.drive(0, false);
        Check.is("49 an empty plan, but no way to the depot", -1, u.planTime(1, true));
        saltWhilePlanning();
    }

    /** Snow falls fast: whether an arc that is driven twice is salted, changes the time. */
    private static void saltWhilePlanning() {
        String text = "node a 0 0;node b 1 0;node c 2 0;road x a b 900 3;road y b c 900 1;fall 99;turns 0 0 0 0;spread 9 9 9;";
        SnowPlough p = Check.loaded(text);
        // 900; at 900: depth 24, 1116; at 2016: depth 55, 1395; at 3411 arc 1 has depth 93, 1737.
        Check.is("49 falling snow", 900 + 1116 + 1395 + 1737, p.planTime(1, true));
        SnowPlough q = Check.loaded("node a 0 0;node b 1 0;road x a b 900 1;fall 99;turns 0 0 0 0;salt 160;spread 9 9 9;");
        q.drive(0, true);
        q.drive(1, true);
        // At 2016: arc 0 is salted until 2700; there was too little salt for arc 1, so that snow falls on it since 2016.
        Check.is("49 salted", 900 + 1116, q.planTime(1, true));
        Check.is("28 time stands", 2016, q.time());
        Check.is("31 salt stands", 79, q.saltLeft());
    }

    private static void promise59() {
        SnowPlough p = Check.loaded(BASE);
        Check.is("59 class 1", 40, p.saltNeeded(1));
        Check.is("59 class 2", 80, p.saltNeeded(2));
        Check.is("59 class 3", 95, p.saltNeeded(3));
        Check.is("59 rounded for each arc", 2 * 14, Check.loaded("node a 0 0;node b 1 0;road x a b 99 1;spread 15 0 0;")
                .saltNeeded(1));
        Check.is("59 none", 0, new SnowPlough().saltNeeded(3));
    }

    private static void promise60() {
        SnowPlough p = Check.loaded(BASE);
        turns(p, 1, 0, 0, 0, 1);
        turns(p, 2, 0, 1, 1, 1);
        // 0 2 4 0 2 3 1
        turns(p, 3, 0, 1, 4, 1);
        turns(Check.loaded("node a 0 0;"), 3, 0, 0, 0, 0);
        turns(Check.loaded("node a 0 0;node b 1 0;road x a b 1 1 oneway;"), 1, -1, -1, -1, -1);
        SnowPlough q = Check.loaded("node a 0 0;node b 1 0;node c 2 0;road x a b 1 1 oneway;road y b c 2 2;road z c a 1 3 oneway;");
        turns(q, 1, 1, 0, 0, 1);
        // Two ways of equal cost lead to the only required arc: the lexicographically smaller one counts.
        String corners = "node a 0 0;node b 1 0;node c 0 1;node d 1 1;node e 1 2;turns 3 3 3 3;";
        String rest = "road r b d 1 2;road s c d 1 2;road t d e 1 1 oneway;road u e a 5 3 oneway;";
        turns(Check.loaded(corners + "road p a b 1 2;road q a c 1 2;" + rest), 1, 1, 0, 2, 0);
        turns(Check.loaded(corners + "road q a c 1 2;road p a b 1 2;" + rest), 1, 0, 1, 2, 0);
    }

    private static void turns(SnowPlough p, int roadClass, int... counts) {
        for (int kind = 0; kind < 4; kind++) {
            Check.is("60 class " + roadClass + " kind " + kind, counts[kind], p.planTurns(roadClass, kind));
        }
    }

    private static void manyArcs() {
        StringBuilder text = new StringBuilder("node a 0 0;node b 1 0;turns 0 0 0 0;");
        for (int i = 0; i < 6; i++) {
            text.append("road ").append((char) ('a' + i)).append(" a b ").append(i + 1).append(" 1;");
        }
        SnowPlough p = Check.loaded(text.toString());
        plan(p, 1, 42, 0, 1, 2, 3, 4, 5, 6, 7, 8, 9, 10, 11);
        Check.is("60 twelve arcs", 11, p.planTurns(1, 3));
        Check.is("49 twelve arcs", 42, p.planTime(1, false));
        SnowPlough q = Check.loaded(text + "road m a b 1 2 oneway;");
        Check.is("24 thirteen arcs are not required", 42, q.planCost(1));
        Check.noState("24 thirteen", () -> q.planCost(2));
        Check.noState("25 thirteen", () -> q.planArc(2, 0));
        Check.noState("25 thirteen, a wrong index", () -> q.planArc(2, -1));
        Check.noState("27 thirteen", () -> q.planOverhead(3));
        Check.noState("49 thirteen", () -> q.planTime(3, true));
        Check.noState("60 thirteen", () -> q.planTurns(3, 0));
        Check.noArgument("60 thirteen, a wrong kind", () -> q.planTurns(3, 4));
        Check.is("26 thirteen", 44, q.greedyTour(2));
        Check.is("59 thirteen", 4, q.saltNeeded(3));
    }

    private static void wrongArguments() {
        SnowPlough p = Check.loaded(BASE);
        for (int c : new int[] {0, 4, -1, Integer.MIN_VALUE, Integer.MAX_VALUE}) {
            Check.noArgument("23 class " + c, () -> p.requiredArcs(c));
            Check.noArgument("24 class " + c, () -> p.planCost(c));
            Check.noArgument("25 class " + c, () -> p.planArc(c, 0));
            Check.noArgument("26 class " + c, () -> p.greedyTour(c));
            Check.noArgument("27 class " + c, () -> p.planOverhead(c));
            Check.noArgument("49 class " + c, () -> p.planTime(c, true));
            Check.noArgument("59 class " + c, () -> p.saltNeeded(c));
            Check.noArgument("60 class " + c, () -> p.planTurns(c, 0));
        }
        for (int kind : new int[] {-1, 4, Integer.MIN_VALUE, Integer.MAX_VALUE}) {
            Check.noArgument("60 kind " + kind, () -> p.planTurns(1, kind));
        }
    }

    private static void withoutNodes() {
        SnowPlough p = new SnowPlough();
        plan(p, 3, 0);
        Check.is("26 without nodes", 0, p.greedyTour(3));
        Check.is("27 without nodes", 0, p.planOverhead(3));
        Check.is("60 without nodes", 0, p.planTurns(3, 0));
        Check.noState("49 without nodes", () -> p.planTime(3, true));
        Check.noArgument("49 a wrong class without nodes", () -> p.planTime(0, true));
    }

    private static void afterUndo() {
        SnowPlough p = Check.loaded(BASE);
        plan(p, 1, 220, 0, 1);
        Check.load(p, SQUARE + "turns 0 0 0 0;");
        Check.is("24 another network", 8, p.planCost(1));
        p.undo();
        plan(p, 1, 220, 0, 1);
        Check.is("17 the old routes", 205, p.routeCost(0, 2));
        Check.load(p, "node a 0 0;node b 1 0;road x a b 9 1;");
        plan(p, 1, 38, 0, 1);
        p.undo();
        p.undo();
        plan(p, 1, 0);
    }
}
