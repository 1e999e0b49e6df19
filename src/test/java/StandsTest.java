/**
 * Section 7, and what can be read: no reading and no prediction changes anything, and neither do the calls that
 * change nothing because there is nothing to change. Section 8 names the latter: they cannot be undone.
 */
public final class StandsTest {
    private interface Call {
        Object on(SnowPlough p);
    }

    private static Story.Maker maker;
    private static String story;
    private static String state;

    public static void main(String[] args) {
        atWork();
        atTheDepot();
        without("a new object", SnowPlough::new);
        without("without a way back", Worked::lost);
        without("with 13 arcs", Worked::many);
        Check.end("StandsTest");
    }

    private static void in(String name, Story.Maker made) {
        maker = made;
        state = name;
        story = Story.whole(made);
    }

    private static void stands(String what, Object due, Call call) {
        Check.same(state + ": " + what, due, call.on(maker.make()));
        stands(what, call);
    }

    private static void stands(String what, Call call) {
        Check.same(state + ": " + what + " changes nothing", story, Story.whole(() -> {
            SnowPlough p = maker.make();
            call.on(p);
            return p;
        }));
    }

    /** Node 1, behind arc 3; each road class and each arc has been looked at twice at least. */
    private static void atWork() {
        in("at work", Worked::full);
        int time = Worked.full().time();
        stands("41 waitFor(0)", time, p -> p.waitFor(0));
        stands("43 setFall with the present rate", 36, p -> p.setFall(36));
        stands("40 driveTo where it is", 0, p -> p.driveTo(1, true));
        stands("63 pathTime where it is", 0, p -> p.pathTime(1));
        stands("3 truncate to all of it", p -> {
            p.truncate(11);
            return 0;
        });
        stands("52 writeNetwork again", Worked.full().writeNetwork(), SnowPlough::writeNetwork);
        stands("63 pathTime", p -> p.pathTime(0));
        stands("63 pathTime", p -> p.pathTime(2));
        stands("38 driveTime", p -> p.driveTime(1));
        stands("38 driveTime", p -> p.driveTime(2));
        for (int c = 1; c <= 3; c++) {
            plans(c);
            required(c);
        }
        for (int arc = 0; arc < 5; arc++) {
            arc(arc);
        }
        for (int node = 0; node < 3; node++) {
            node(node);
        }
        plain();
    }

    private static void plans(int c) {
        stands("24 planCost " + c, p -> p.planCost(c));
        stands("25 planArc " + c, 0, p -> p.planArc(c, 0));
        stands("26 greedyTour " + c, p -> p.greedyTour(c));
        stands("27 planOverhead " + c, p -> p.planOverhead(c));
        stands("49 planTime " + c, p -> p.planTime(c, true));
        stands("49 planTime " + c, p -> p.planTime(c, false));
        stands("60 planTurns " + c, p -> p.planTurns(c, 3));
    }

    private static void required(int c) {
        stands("23 requiredArcs " + c, p -> p.requiredArcs(c));
        stands("34 deepestArc " + c, p -> p.deepestArc(c));
        stands("48 untouched " + c, p -> p.untouched(c));
        stands("59 saltNeeded " + c, p -> p.saltNeeded(c));
        stands("62 secondsToFirstDepth " + c, p -> p.secondsToFirstDepth(c, 2000));
        stands("64 meanDepth " + c, p -> p.meanDepth(c));
        stands("65 deepestArcAfter " + c, p -> p.deepestArcAfter(c, 1000000));
        stands("65 deepestArcAfter " + c, p -> p.deepestArcAfter(c, 0));
    }

    private static void arc(int arc) {
        stands("11 to 14, arc " + arc, p -> p.arcStart(arc) + p.arcEnd(arc) + p.arcLength(arc) + p.arcClass(arc));
        stands("17 routeCost " + arc, 0, p -> p.routeCost(arc, arc));
        stands("17 routeCost to " + arc, p -> p.routeCost(0, arc));
        stands("33 depth " + arc, p -> p.depth(arc));
        stands("37 secondsToDepth " + arc, 0, p -> p.secondsToDepth(arc, 0));
        stands("37 secondsToDepth " + arc, p -> p.secondsToDepth(arc, 2000));
        stands("47 passes " + arc, p -> p.passes(arc));
        stands("55 cycleCost " + arc, p -> p.cycleCost(arc));
        stands("61 depthAfter " + arc, p -> p.depthAfter(arc, 0));
        stands("61 depthAfter " + arc, 2000, p -> p.depthAfter(arc, 1000000));
    }

    private static void node(int node) {
        stands("18 pathCost " + node, 0, p -> p.pathCost(node, node));
        stands("18 pathCost " + node, p -> p.pathCost(node, (node + 1) % 3));
        stands("19 pathArc " + node, p -> p.pathArc(node, (node + 1) % 3, 0));
        stands("20 reachable " + node, 7, p -> p.reachable(node));
        stands("22 imbalance " + node, p -> p.imbalance(node));
        stands("56 eccentricity " + node, p -> p.eccentricity(node));
        stands("58 isCritical " + node, p -> p.isCritical(node));
    }

    private static void plain() {
        stands("5 errorCode", 1, SnowPlough::errorCode);
        stands("6 errorPosition", 11, SnowPlough::errorPosition);
        stands("7 nodeCount", 3, SnowPlough::nodeCount);
        stands("8 roadCount", 3, SnowPlough::roadCount);
        stands("10 arcs", 31, SnowPlough::arcs);
        stands("15 turn", 3, p -> p.turn(0, 1));
        stands("16 turnCost", 21, p -> p.turnCost(3));
        stands("21 isStronglyConnected", true, SnowPlough::isStronglyConnected);
        stands("28 time", SnowPlough::time);
        stands("29 position", 1, SnowPlough::position);
        stands("30 lastArc", 3, SnowPlough::lastArc);
        stands("31 saltLeft", SnowPlough::saltLeft);
        stands("32 fall", 36, SnowPlough::fall);
        stands("35 deepArcs", p -> p.deepArcs(0));
        stands("35 deepArcs", 0, p -> p.deepArcs(2000));
        stands("36 totalSnow", SnowPlough::totalSnow);
        stands("44 saltUsed", SnowPlough::saltUsed);
        stands("45 distance", 1100, SnowPlough::distance);
        stands("46 turnsMade", p -> p.turnsMade(3));
        stands("51 undoCount", 10, SnowPlough::undoCount);
        stands("53 outputByte", (int) 'n', p -> p.outputByte(0));
        stands("54 nearestDeepArc", p -> p.nearestDeepArc(0));
        stands("57 centre", 1, SnowPlough::centre);
    }

    private static void atTheDepot() {
        in("at the depot, full of salt", () -> {
            SnowPlough p = Worked.withRoom();
            p.driveTo(0, true);
            p.refill();
            return p;
        });
        Check.is("51 with the drive and the refill", 10, maker.make().undoCount());
        stands("42 refill of a full load", 0, SnowPlough::refill);
        stands("40 driveTo where it is", 0, p -> p.driveTo(0, false));
        in("loaded only", () -> Check.loaded(Worked.BASE));
        stands("42 refill of a full load", 0, SnowPlough::refill);
        stands("43 setFall(0)", 0, p -> p.setFall(0));
        stands("41 waitFor(0)", 0, p -> p.waitFor(0));
        in("at 1000000", Worked::late);
        stands("41 waitFor(0)", 1000000, p -> p.waitFor(0));
    }

    private static void without(String name, Story.Maker made) {
        in(name, made);
        stands("3 truncate", p -> {
            p.truncate(0);
            return 0;
        });
        stands("21, 57", p -> p.isStronglyConnected() ? p.centre() : 0);
        stands("10, 35, 36", p -> p.arcs() + p.deepArcs(0) + p.totalSnow() + p.nearestDeepArc(0));
        for (int c = 1; c <= 3; c++) {
            required(c);
            int roadClass = c;
            stands("26 greedyTour " + c, p -> p.greedyTour(roadClass));
        }
        for (int kind = 0; kind < 4; kind++) {
            int k = kind;
            stands("16, 46, 60 with kind " + k, p -> p.turnCost(k) + p.turnsMade(k) + p.planTurns(1, k));
        }
        stands("24, 27", p -> p.planCost(1) + p.planOverhead(1));
        stands("41 waitFor(0)", made.make().time(), p -> p.waitFor(0));
        stands("43 setFall(0)", 0, p -> p.setFall(0));
    }
}
