/**
 * The paragraph EXCEPTIONS and each 'Throws' of the promises: just outside each bound, far outside, and where bits or
 * signs would wrap; what a call throws if several exceptions apply; and that a call that throws changes nothing.
 */
public final class RefusalTest {
    private interface Call {
        Object on(SnowPlough p);
    }

    private interface NumberCall {
        Object on(SnowPlough p, int number);
    }

    private static final Class<IndexOutOfBoundsException> INDEX = IndexOutOfBoundsException.class;
    private static final Class<IllegalArgumentException> ARGUMENT = IllegalArgumentException.class;
    private static final Class<IllegalStateException> STATE = IllegalStateException.class;
    private static final Class<java.util.NoSuchElementException> ELEMENT = java.util.NoSuchElementException.class;

    private static final int MIN = Integer.MIN_VALUE;
    private static final int MAX = Integer.MAX_VALUE;
    private static final int[] NO_ARCS = {-1, 5, 6, 23, 24, 25, 32, 34, 64, -32, 1 << 30, MIN, MAX};
    private static final int[] NO_NODES = {-1, 3, 9, 10, 32, 33, -32, 1 << 30, MIN, MAX};
    private static final int[] NO_CLASSES = {0, 4, -1, -3, 257, MIN, MAX, MIN + 1};
    private static final int[] NO_KINDS = {-1, 4, 32, MIN, MAX};
    private static final int[] NO_DEPTHS = {-1, 2001, MIN, MAX};
    private static final int[] NO_SECONDS = {-1, 1000001, MIN, MAX};
    private static final int[] ANY = {0, -1, 1, MIN, MAX};

    /** What makes the object, its story, and its name, for the refusals that follow. */
    private static Story.Maker maker;
    private static String story;
    private static String state;

    public static void main(String[] args) {
        arcsNodesAndRoads();
        classesAndKinds();
        snowNumbers();
        ploughAndBuffers();
        severalExceptions();
        fullBuffer();
        find();
        tooManyArcs();
        noRoute();
        lateTimes();
        emptyNetwork();
        nodesWithoutRoads();
        Check.end("RefusalTest");
    }

    private static void in(String name, Story.Maker made) {
        maker = made;
        state = name;
        story = Story.whole(made);
        Check.same(name + ": the story is the same twice", story, Story.whole(made));
    }

    private static void refused(String what, Class<? extends RuntimeException> due, Call call) {
        String name = state + ": " + what;
        Check.fails(name, due, () -> call.on(maker.make()));
        Check.same(name + " changes nothing", story, Story.whole(() -> {
            SnowPlough p = maker.make();
            try {
                call.on(p);
            } catch (RuntimeException e) {
                return p;
            }
            return p;
        }));
    }

    private static void refused(String what, Class<? extends RuntimeException> due, int[] numbers, NumberCall call) {
        for (int number : numbers) {
            refused(what + " with " + number, due, p -> call.on(p, number));
        }
    }

    private static void arcsNodesAndRoads() {
        in("at work", Worked::full);
        refused("11 arcStart", INDEX, NO_ARCS, SnowPlough::arcStart);
        refused("12 arcEnd", INDEX, NO_ARCS, SnowPlough::arcEnd);
        refused("13 arcLength", INDEX, NO_ARCS, SnowPlough::arcLength);
        refused("14 arcClass", INDEX, NO_ARCS, SnowPlough::arcClass);
        refused("15 turn from", INDEX, NO_ARCS, (p, arc) -> p.turn(arc, 0));
        refused("15 turn to", INDEX, NO_ARCS, (p, arc) -> p.turn(0, arc));
        refused("15 turn, to does not begin where from ends", ARGUMENT, new int[] {0, 3, 4}, (p, arc) -> p.turn(0, arc));
        refused("17 routeCost from", INDEX, NO_ARCS, (p, arc) -> p.routeCost(arc, 0));
        refused("17 routeCost to", INDEX, NO_ARCS, (p, arc) -> p.routeCost(0, arc));
        refused("17 routeCost twice", INDEX, NO_ARCS, (p, arc) -> p.routeCost(arc, arc));
        refused("18 pathCost from", INDEX, NO_NODES, (p, node) -> p.pathCost(node, 0));
        refused("18 pathCost to", INDEX, NO_NODES, (p, node) -> p.pathCost(0, node));
        refused("18 pathCost twice", INDEX, NO_NODES, (p, node) -> p.pathCost(node, node));
        refused("19 pathArc from", INDEX, NO_NODES, (p, node) -> p.pathArc(node, 0, 0));
        refused("19 pathArc to", INDEX, NO_NODES, (p, node) -> p.pathArc(0, node, 0));
        refused("19 pathArc behind the route", ELEMENT, new int[] {2, 3, 24, 32, -1, MIN, MAX}, (p, i) -> p.pathArc(0, 2, i));
        refused("19 pathArc, the same node", ELEMENT, ANY, (p, i) -> p.pathArc(1, 1, i));
        refused("20 reachable", INDEX, NO_NODES, SnowPlough::reachable);
        refused("22 imbalance", INDEX, NO_NODES, SnowPlough::imbalance);
        refused("55 cycleCost", INDEX, NO_ARCS, SnowPlough::cycleCost);
        refused("56 eccentricity", INDEX, NO_NODES, SnowPlough::eccentricity);
        refused("58 isCritical", INDEX, new int[] {-1, 3, 4, 11, 12, 32, 1 << 30, MIN, MAX}, SnowPlough::isCritical);
    }

    private static void classesAndKinds() {
        refused("16 turnCost", ARGUMENT, NO_KINDS, SnowPlough::turnCost);
        refused("23 requiredArcs", ARGUMENT, NO_CLASSES, SnowPlough::requiredArcs);
        refused("24 planCost", ARGUMENT, NO_CLASSES, SnowPlough::planCost);
        refused("25 planArc", ARGUMENT, NO_CLASSES, (p, c) -> p.planArc(c, 0));
        refused("25 planArc behind the plan", ELEMENT, new int[] {4, 5, 12, -1, MIN, MAX}, (p, i) -> p.planArc(2, i));
        refused("26 greedyTour", ARGUMENT, NO_CLASSES, SnowPlough::greedyTour);
        refused("27 planOverhead", ARGUMENT, NO_CLASSES, SnowPlough::planOverhead);
        refused("34 deepestArc", ARGUMENT, NO_CLASSES, SnowPlough::deepestArc);
        refused("46 turnsMade", ARGUMENT, NO_KINDS, SnowPlough::turnsMade);
        refused("48 untouched", ARGUMENT, NO_CLASSES, SnowPlough::untouched);
        refused("49 planTime", ARGUMENT, NO_CLASSES, (p, c) -> p.planTime(c, true));
        refused("59 saltNeeded", ARGUMENT, NO_CLASSES, SnowPlough::saltNeeded);
        refused("60 planTurns, class", ARGUMENT, NO_CLASSES, (p, c) -> p.planTurns(c, 0));
        refused("60 planTurns, kind", ARGUMENT, NO_KINDS, (p, kind) -> p.planTurns(1, kind));
        refused("62 secondsToFirstDepth, class", ARGUMENT, NO_CLASSES, (p, c) -> p.secondsToFirstDepth(c, 0));
        refused("64 meanDepth", ARGUMENT, NO_CLASSES, SnowPlough::meanDepth);
        refused("65 deepestArcAfter, class", ARGUMENT, NO_CLASSES, (p, c) -> p.deepestArcAfter(c, 0));
    }

    private static void snowNumbers() {
        refused("33 depth", INDEX, NO_ARCS, SnowPlough::depth);
        refused("35 deepArcs", ARGUMENT, NO_DEPTHS, SnowPlough::deepArcs);
        refused("37 secondsToDepth, arc", INDEX, NO_ARCS, (p, arc) -> p.secondsToDepth(arc, 0));
        refused("37 secondsToDepth, depth", ARGUMENT, NO_DEPTHS, (p, depth) -> p.secondsToDepth(0, depth));
        refused("43 setFall", ARGUMENT, new int[] {-1, 100, 256, MIN, MAX}, SnowPlough::setFall);
        refused("54 nearestDeepArc", ARGUMENT, NO_DEPTHS, SnowPlough::nearestDeepArc);
        refused("61 depthAfter, arc", INDEX, NO_ARCS, (p, arc) -> p.depthAfter(arc, 0));
        refused("61 depthAfter, seconds", ARGUMENT, NO_SECONDS, (p, seconds) -> p.depthAfter(0, seconds));
        refused("62 secondsToFirstDepth, depth", ARGUMENT, NO_DEPTHS, (p, depth) -> p.secondsToFirstDepth(1, depth));
        refused("65 deepestArcAfter, seconds", ARGUMENT, NO_SECONDS, (p, seconds) -> p.deepestArcAfter(1, seconds));
    }

    private static void ploughAndBuffers() {
        refused("3 truncate", ARGUMENT, new int[] {-1, 12, 13, 1200, MIN, MAX}, RefusalTest::truncate);
        refused("38 driveTime", INDEX, NO_ARCS, SnowPlough::driveTime);
        refused("38 driveTime, it begins elsewhere", STATE, new int[] {0, 3, 4}, SnowPlough::driveTime);
        refused("39 drive", INDEX, NO_ARCS, (p, arc) -> p.drive(arc, true));
        refused("39 drive, it begins elsewhere", STATE, new int[] {0, 3, 4}, (p, arc) -> p.drive(arc, true));
        refused("40 driveTo", INDEX, NO_NODES, (p, node) -> p.driveTo(node, true));
        refused("41 waitFor", ARGUMENT, new int[] {-1, 86401, MIN, MAX}, SnowPlough::waitFor);
        refused("42 refill, not at the depot", STATE, SnowPlough::refill);
        refused("47 passes", INDEX, NO_ARCS, SnowPlough::passes);
        int length = Worked.full().writeNetwork();
        refused("53 outputByte", INDEX, new int[] {-1, length, length + 1, 1199, 1200, MIN, MAX}, SnowPlough::outputByte);
        refused("63 pathTime", INDEX, NO_NODES, SnowPlough::pathTime);
    }

    private static Object truncate(SnowPlough p, int length) {
        p.truncate(length);
        return length;
    }

    private static void severalExceptions() {
        refused("15 no arc, and none that fits", INDEX, p -> p.turn(5, 4));
        refused("19 no node, and no index", INDEX, p -> p.pathArc(3, 0, -1));
        refused("19 no node, and no index", INDEX, p -> p.pathArc(0, 3, 9));
        refused("25 no class, and no index", ARGUMENT, p -> p.planArc(4, -1));
        refused("37 no arc, and no depth", INDEX, p -> p.secondsToDepth(5, 2001));
        refused("37 no arc, and no depth", INDEX, p -> p.secondsToDepth(-1, -1));
        refused("60 no class, and no kind", ARGUMENT, p -> p.planTurns(0, 4));
        refused("61 no arc, and no seconds", INDEX, p -> p.depthAfter(5, 1000001));
        refused("61 no arc, and no seconds", INDEX, p -> p.depthAfter(-1, -1));
        refused("62 no class, and no depth", ARGUMENT, p -> p.secondsToFirstDepth(4, 2001));
        refused("65 no class, and no seconds", ARGUMENT, p -> p.deepestArcAfter(4, 1000001));
    }

    private static void fullBuffer() {
        in("with 1200 bytes", () -> Worked.typed(1200));
        refused("2 append", STATE, p -> p.append(0, 1, 2, 3, 4));
        refused("3 truncate", ARGUMENT, new int[] {1201, 1220, -1, MIN, MAX}, RefusalTest::truncate);
        in("with 1181 bytes", () -> Worked.typed(1181));
        refused("2 append", STATE, p -> p.append(0x20202020, 0x20202020, 0x20202020, 0x20202020, 0x20202020));
        in("with 1199 bytes", () -> Worked.typed(1199));
        refused("2 append", STATE, p -> p.append(-1, -1, -1, -1, -1));
        in("with 1180 bytes", () -> Worked.typed(1180));
        refused("3 truncate", ARGUMENT, new int[] {1181, 1200, 1201, -1}, RefusalTest::truncate);
    }

    /** find() empties the buffer, also if it throws; that is all that it changes. */
    private static void find() {
        for (String wrong : new String[] {"", "abcdefg", "A", "a ", " a", "a1", "a;", "\n", "a\u0000", "`", "{", "\u00e1"}) {
            for (boolean isRoad : new boolean[] {false, true}) {
                in("at work, its input " + wrong, () -> retyped(wrong));
                Check.noArgument(state, () -> retyped(wrong).find(isRoad));
                Check.same(state + ": all but the buffer stays", Story.whole(() -> retyped("")), Story.whole(() -> {
                    SnowPlough p = retyped(wrong);
                    try {
                        p.find(isRoad);
                    } catch (IllegalArgumentException e) {
                        return p;
                    }
                    return p;
                }));
            }
        }
    }

    private static SnowPlough retyped(String input) {
        SnowPlough p = Worked.full();
        p.truncate(0);
        Check.type(p, input);
        return p;
    }

    private static void tooManyArcs() {
        in("with 13 and 15 arcs", Worked::many);
        for (int c = 2; c <= 3; c++) {
            int roadClass = c;
            refused("24 planCost " + c, STATE, p -> p.planCost(roadClass));
            refused("25 planArc " + c, STATE, p -> p.planArc(roadClass, 0));
            refused("25 planArc " + c + ", and no index", STATE, p -> p.planArc(roadClass, -1));
            refused("25 planArc " + c + ", and no index", STATE, p -> p.planArc(roadClass, 13));
            refused("27 planOverhead " + c, STATE, p -> p.planOverhead(roadClass));
            refused("49 planTime " + c, STATE, p -> p.planTime(roadClass, false));
            refused("60 planTurns " + c, STATE, p -> p.planTurns(roadClass, 0));
            refused("60 planTurns " + c + ", and no kind", ARGUMENT, p -> p.planTurns(roadClass, 4));
        }
        refused("24 planCost", ARGUMENT, NO_CLASSES, SnowPlough::planCost);
        refused("25 planArc", ARGUMENT, NO_CLASSES, (p, c) -> p.planArc(c, -1));
        refused("27 planOverhead", ARGUMENT, NO_CLASSES, SnowPlough::planOverhead);
        refused("49 planTime", ARGUMENT, NO_CLASSES, (p, c) -> p.planTime(c, false));
        refused("60 planTurns", ARGUMENT, NO_CLASSES, (p, c) -> p.planTurns(c, 0));
        refused("25 planArc behind the plan", ELEMENT, new int[] {12, 13, -1}, (p, i) -> p.planArc(1, i));
    }

    private static void noRoute() {
        in("without a way back", Worked::lost);
        refused("19 pathArc, no route", ELEMENT, ANY, (p, i) -> p.pathArc(1, 0, i));
        refused("19 pathArc, no route", ELEMENT, ANY, (p, i) -> p.pathArc(0, 2, i));
        refused("25 planArc, no plan", ELEMENT, ANY, (p, i) -> p.planArc(1, i));
        refused("40 driveTo, no route", ELEMENT, new int[] {0, 2}, (p, node) -> p.driveTo(node, true));
        refused("40 driveTo, no node", INDEX, new int[] {3, -1}, (p, node) -> p.driveTo(node, true));
        refused("63 pathTime, no route", ELEMENT, new int[] {0, 2}, SnowPlough::pathTime);
        refused("63 pathTime, no node", INDEX, new int[] {3, -1}, SnowPlough::pathTime);
        refused("42 refill", STATE, SnowPlough::refill);
    }

    private static void lateTimes() {
        in("at 1000000", Worked::late);
        refused("41 waitFor", STATE, new int[] {1, 2, 86399, 86400}, SnowPlough::waitFor);
        refused("41 waitFor, both", ARGUMENT, new int[] {86401, -1, MAX, MIN}, SnowPlough::waitFor);
        in("at 999999", () -> {
            SnowPlough p = Worked.late();
            p.undo();
            p.waitFor(1000000 - 11 * 86400 - 1);
            return p;
        });
        refused("41 waitFor", STATE, new int[] {2, 3, 86400}, SnowPlough::waitFor);
        in("behind 1000000", () -> {
            SnowPlough p = Worked.late();
            p.drive(0, false);
            return p;
        });
        refused("41 waitFor", STATE, new int[] {0, 1, 86400}, SnowPlough::waitFor);
        refused("41 waitFor, both", ARGUMENT, new int[] {86401, -1}, SnowPlough::waitFor);
        in("with nothing to undo", () -> {
            SnowPlough p = Worked.withRoom();
            while (p.undoCount() > 0) {
                p.undo();
            }
            return p;
        });
        refused("50 undo", STATE, SnowPlough::undo);
    }

    private static void emptyNetwork() {
        in("a new object", SnowPlough::new);
        refused("3 truncate", ARGUMENT, new int[] {1, -1, 1200, MAX, MIN}, RefusalTest::truncate);
        refused("11 arcStart", INDEX, ANY, SnowPlough::arcStart);
        refused("12 arcEnd", INDEX, ANY, SnowPlough::arcEnd);
        refused("13 arcLength", INDEX, ANY, SnowPlough::arcLength);
        refused("14 arcClass", INDEX, ANY, SnowPlough::arcClass);
        refused("15 turn", INDEX, ANY, (p, arc) -> p.turn(arc, arc));
        refused("17 routeCost", INDEX, ANY, (p, arc) -> p.routeCost(arc, arc));
        refused("18 pathCost", INDEX, ANY, (p, node) -> p.pathCost(node, node));
        refused("19 pathArc", INDEX, ANY, (p, node) -> p.pathArc(node, node, 0));
        refused("20 reachable", INDEX, ANY, SnowPlough::reachable);
        refused("22 imbalance", INDEX, ANY, SnowPlough::imbalance);
        refused("25 planArc", ELEMENT, ANY, (p, i) -> p.planArc(3, i));
        refused("33 depth", INDEX, ANY, SnowPlough::depth);
        refused("37 secondsToDepth", INDEX, ANY, (p, arc) -> p.secondsToDepth(arc, 0));
        refused("38 driveTime", INDEX, ANY, SnowPlough::driveTime);
        refused("39 drive", INDEX, ANY, (p, arc) -> p.drive(arc, true));
        refused("40 driveTo", INDEX, ANY, (p, node) -> p.driveTo(node, true));
        refused("42 refill", STATE, SnowPlough::refill);
        refused("47 passes", INDEX, ANY, SnowPlough::passes);
        refused("49 planTime", STATE, new int[] {1, 2, 3}, (p, c) -> p.planTime(c, true));
        refused("49 planTime, and no class", ARGUMENT, NO_CLASSES, (p, c) -> p.planTime(c, true));
        refused("50 undo", STATE, SnowPlough::undo);
        refused("53 outputByte", INDEX, ANY, SnowPlough::outputByte);
        refused("55 cycleCost", INDEX, ANY, SnowPlough::cycleCost);
        refused("56 eccentricity", INDEX, ANY, SnowPlough::eccentricity);
        refused("58 isCritical", INDEX, ANY, SnowPlough::isCritical);
        refused("61 depthAfter", INDEX, ANY, (p, arc) -> p.depthAfter(arc, 0));
        refused("63 pathTime", INDEX, ANY, SnowPlough::pathTime);
    }

    /** One node: just one, and still no arc and no road. */
    private static void nodesWithoutRoads() {
        in("a single node", () -> Check.loaded("node z 9 9;"));
        refused("11 arcStart", INDEX, ANY, SnowPlough::arcStart);
        refused("18 pathCost", INDEX, new int[] {1, -1}, (p, node) -> p.pathCost(0, node));
        refused("19 pathArc", ELEMENT, ANY, (p, i) -> p.pathArc(0, 0, i));
        refused("20 reachable", INDEX, new int[] {1, -1}, SnowPlough::reachable);
        refused("39 drive", INDEX, ANY, (p, arc) -> p.drive(arc, true));
        refused("40 driveTo", INDEX, new int[] {1, -1}, (p, node) -> p.driveTo(node, true));
        refused("58 isCritical", INDEX, ANY, SnowPlough::isCritical);
    }
}
