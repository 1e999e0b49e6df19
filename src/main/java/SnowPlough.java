import java.util.Arrays;
import java.util.NoSuchElementException;

/** Plans routes for a snow plough in a road network and simulates its work. */
public final class SnowPlough {
    public static final int NONE = -1;
    public static final int PARSE_ERROR = -4;

    private static final int MAX_INPUT = 1200;
    private static final int MAX_NODES = 10;
    private static final int MAX_ROADS = 12;
    private static final int MAX_ARCS = 24;
    private static final int MAX_NAME = 6;
    private static final int MAX_PLAN = 12;
    private static final int MAX_UNDO = 10;
    private static final int MAX_DEPTH = 2000;
    private static final int MAX_TIME = 1000000;
    private static final int MAX_WAIT = 86400;
    private static final int MAX_FALL = 99;
    private static final int CLASSES = 3;
    private static final int KINDS = 4;
    private static final int SALT_SECONDS = 1800;
    /** The cost of what cannot be reached: far above each real cost, and a dozen of it still fit an int. */
    private static final int FAR = 100000000;

    private final Buffer input;
    private final Buffer output;
    private final Parser parser;
    private final Network loaded;
    private final Network network;
    private final World world;
    private final World prediction;
    private final Routes routes;
    private final Planner planner;
    private final History history;
    private int loads;

    public SnowPlough() {
        Buffer text = new Buffer();
        Network parsed = new Network();
        Network present = new Network();
        Routes tables = new Routes(present);
        input = text;
        output = new Buffer();
        loaded = parsed;
        parser = new Parser(text, parsed);
        network = present;
        world = new World(present);
        prediction = new World(present);
        routes = tables;
        planner = new Planner(present, tables);
        history = new History();
        loads = 0;
    }

    // Input, parse error and names

    public int append(int a, int b, int c, int d, int e) throws IllegalStateException {
        if (input.size + 20 > MAX_INPUT) {
            throw new IllegalStateException();
        }
        input.putInt(a);
        input.putInt(b);
        input.putInt(c);
        input.putInt(d);
        input.putInt(e);
        return input.size;
    }

    public void truncate(int length) throws IllegalArgumentException {
        if (length < 0 || length > input.size) {
            throw new IllegalArgumentException();
        }
        input.size = length;
    }

    public int load() {
        boolean correct = parser.parse();
        input.size = 0;
        if (!correct) {
            return PARSE_ERROR;
        }
        history.keep(network, world);
        loads++;
        loaded.serial = loads;
        network.copyFrom(loaded);
        world.begin();
        return network.roads;
    }

    public int errorCode() {
        return parser.error;
    }

    public int errorPosition() {
        return parser.errorAt;
    }

    public int nodeCount() {
        return network.nodes;
    }

    public int roadCount() {
        return network.roads;
    }

    public int find(boolean isRoad) throws IllegalArgumentException {
        int name = input.wholeName();
        input.size = 0;
        if (name == NONE) {
            throw new IllegalArgumentException();
        }
        return isRoad ? network.roadNamed(name) : network.nodeNamed(name);
    }

    // Arcs and turns

    public int arcs() {
        return network.arcsUpTo(CLASSES);
    }

    public int arcStart(int arc) throws IndexOutOfBoundsException {
        checkArc(arc);
        return network.beginOf(arc);
    }

    public int arcEnd(int arc) throws IndexOutOfBoundsException {
        checkArc(arc);
        return network.endOf(arc);
    }

    public int arcLength(int arc) throws IndexOutOfBoundsException {
        checkArc(arc);
        return network.lengthOf(arc);
    }

    public int arcClass(int arc) throws IndexOutOfBoundsException {
        checkArc(arc);
        return network.classOf(arc);
    }

    public int turn(int from, int to) throws IndexOutOfBoundsException, IllegalArgumentException {
        checkArc(from);
        checkArc(to);
        if (network.endOf(from) != network.beginOf(to)) {
            throw new IllegalArgumentException();
        }
        return network.turnKind(from, to);
    }

    public int turnCost(int kind) throws IllegalArgumentException {
        checkKind(kind);
        return network.turnCosts[kind];
    }

    // Routes

    public int routeCost(int from, int to) throws IndexOutOfBoundsException {
        checkArc(from);
        checkArc(to);
        return known(freshRoutes().costBehind(from, to));
    }

    public int pathCost(int from, int to) throws IndexOutOfBoundsException {
        checkNode(from);
        checkNode(to);
        return known(freshRoutes().costBetween(from, to));
    }

    public int pathArc(int from, int to, int index) throws IndexOutOfBoundsException, NoSuchElementException {
        checkNode(from);
        checkNode(to);
        Routes tables = freshRoutes();
        tables.findPath(from, to);
        if (index < 0 || index >= tables.pathSize) {
            throw new NoSuchElementException();
        }
        return tables.path[index];
    }

    public int reachable(int node) throws IndexOutOfBoundsException {
        checkNode(node);
        return network.reachableFrom(node, NONE);
    }

    public boolean isStronglyConnected() {
        return network.isConnectedWithout(NONE);
    }

    public int imbalance(int node) throws IndexOutOfBoundsException {
        checkNode(node);
        int difference = 0;
        for (int arc = 0; arc < MAX_ARCS; arc++) {
            if (network.hasArc(arc)) {
                difference += network.beginOf(arc) == node ? 1 : 0;
                difference -= network.endOf(arc) == node ? 1 : 0;
            }
        }
        return difference;
    }

    public int cycleCost(int arc) throws IndexOutOfBoundsException {
        checkArc(arc);
        int back = freshRoutes().costBehind(arc, Routes.placeOf(network.beginOf(arc)));
        return known(network.lengthOf(arc) + back);
    }

    public int eccentricity(int node) throws IndexOutOfBoundsException {
        checkNode(node);
        return known(freshRoutes().farthestFrom(node));
    }

    public int centre() {
        Routes tables = freshRoutes();
        int best = NONE;
        int least = FAR;
        for (int node = 0; node < network.nodes; node++) {
            int farthest = tables.farthestFrom(node);
            if (farthest < least) {
                least = farthest;
                best = node;
            }
        }
        return best;
    }

    public boolean isCritical(int road) throws IndexOutOfBoundsException {
        if (road < 0 || road >= network.roads) {
            throw new IndexOutOfBoundsException();
        }
        return network.isConnectedWithout(NONE) && !network.isConnectedWithout(road);
    }

    // Plans

    public int requiredArcs(int roadClass) throws IllegalArgumentException {
        checkClass(roadClass);
        return network.arcsUpTo(roadClass);
    }

    public int planCost(int roadClass) throws IllegalArgumentException, IllegalStateException {
        return solvedPlan(roadClass).costOf(roadClass);
    }

    public int planArc(int roadClass, int index)
            throws IllegalArgumentException, IllegalStateException, NoSuchElementException {
        Planner plans = solvedPlan(roadClass);
        if (index < 0 || index >= plans.sizeOf(roadClass)) {
            throw new NoSuchElementException();
        }
        return plans.arcAt(roadClass, index);
    }

    public int greedyTour(int roadClass) throws IllegalArgumentException {
        checkClass(roadClass);
        return freshRoutes().greedyCost(network.arcsUpTo(roadClass));
    }

    public int planOverhead(int roadClass) throws IllegalArgumentException, IllegalStateException {
        int cost = solvedPlan(roadClass).costOf(roadClass);
        if (cost == NONE) {
            return NONE;
        }
        int required = network.arcsUpTo(roadClass);
        for (int arc = 0; arc < MAX_ARCS; arc++) {
            if (contains(required, arc)) {
                cost -= network.lengthOf(arc);
            }
        }
        return cost;
    }

    public int planTurns(int roadClass, int kind) throws IllegalArgumentException, IllegalStateException {
        checkKind(kind);
        Planner plans = solvedPlan(roadClass);
        if (plans.costOf(roadClass) == NONE) {
            return NONE;
        }
        return plans.turnsOf(roadClass, kind);
    }

    public int planTime(int roadClass, boolean spread) throws IllegalArgumentException, IllegalStateException {
        Planner plans = solvedPlan(roadClass);
        if (network.nodes == 0) {
            throw new IllegalStateException();
        }
        if (plans.costOf(roadClass) == NONE) {
            return NONE;
        }
        prediction.copyFrom(world);
        for (int i = 0; i < plans.sizeOf(roadClass); i++) {
            int arc = plans.arcAt(roadClass, i);
            if (!predictDriveTo(network.beginOf(arc), spread)) {
                return NONE;
            }
            prediction.driveArc(arc, spread);
        }
        if (!predictDriveTo(network.depot, spread)) {
            return NONE;
        }
        return prediction.clock - world.clock;
    }

    public int saltNeeded(int roadClass) throws IllegalArgumentException {
        checkClass(roadClass);
        int required = network.arcsUpTo(roadClass);
        int sum = 0;
        for (int arc = 0; arc < MAX_ARCS; arc++) {
            if (contains(required, arc)) {
                sum += network.saltFor(arc);
            }
        }
        return sum;
    }

    // Snow

    public int time() {
        return world.clock;
    }

    public int fall() {
        return world.rate;
    }

    public int depth(int arc) throws IndexOutOfBoundsException {
        checkArc(arc);
        return world.snowAfter(arc, 0);
    }

    public int deepestArc(int roadClass) throws IllegalArgumentException {
        checkClass(roadClass);
        return world.deepestOf(network.arcsUpTo(roadClass), 0);
    }

    public int deepArcs(int limit) throws IllegalArgumentException {
        checkDepth(limit);
        return world.deeperThan(limit);
    }

    public long totalSnow() {
        long sum = 0;
        for (int arc = 0; arc < MAX_ARCS; arc++) {
            if (network.hasArc(arc)) {
                sum += (long) network.lengthOf(arc) * world.snowAfter(arc, 0);
            }
        }
        return sum;
    }

    public int secondsToDepth(int arc, int depth) throws IndexOutOfBoundsException, IllegalArgumentException {
        checkArc(arc);
        checkDepth(depth);
        return world.secondsUntil(arc, depth);
    }

    public int nearestDeepArc(int limit) throws IllegalArgumentException {
        checkDepth(limit);
        int place = world.last == NONE ? Routes.placeOf(world.place) : world.last;
        return freshRoutes().nearestArc(place, world.deeperThan(limit));
    }

    public int depthAfter(int arc, int seconds) throws IndexOutOfBoundsException, IllegalArgumentException {
        checkArc(arc);
        checkSeconds(seconds);
        return world.snowAfter(arc, seconds);
    }

    public int secondsToFirstDepth(int roadClass, int depth) throws IllegalArgumentException {
        checkClass(roadClass);
        checkDepth(depth);
        int required = network.arcsUpTo(roadClass);
        int least = NONE;
        for (int arc = 0; arc < MAX_ARCS; arc++) {
            int seconds = contains(required, arc) ? world.secondsUntil(arc, depth) : NONE;
            if (seconds != NONE && (least == NONE || seconds < least)) {
                least = seconds;
            }
        }
        return least;
    }

    public int meanDepth(int roadClass) throws IllegalArgumentException {
        checkClass(roadClass);
        int required = network.arcsUpTo(roadClass);
        int sum = 0;
        int count = 0;
        for (int arc = 0; arc < MAX_ARCS; arc++) {
            if (contains(required, arc)) {
                sum += world.snowAfter(arc, 0);
                count++;
            }
        }
        return count == 0 ? NONE : sum / count;
    }

    public int deepestArcAfter(int roadClass, int seconds) throws IllegalArgumentException {
        checkClass(roadClass);
        checkSeconds(seconds);
        return world.deepestOf(network.arcsUpTo(roadClass), seconds);
    }

    // The plough

    public int position() {
        return world.place;
    }

    public int lastArc() {
        return world.last;
    }

    public int saltLeft() {
        return world.salt;
    }

    public int driveTime(int arc) throws IndexOutOfBoundsException, IllegalStateException {
        checkDrivable(arc);
        return world.secondsFor(arc);
    }

    public int drive(int arc, boolean spread) throws IndexOutOfBoundsException, IllegalStateException {
        checkDrivable(arc);
        history.keep(network, world);
        return world.driveArc(arc, spread);
    }

    public int driveTo(int node, boolean spread) throws IndexOutOfBoundsException, NoSuchElementException {
        Routes tables = routesTo(node);
        if (tables.pathSize == 0) {
            return 0;
        }
        history.keep(network, world);
        return world.driveAlong(tables.path, tables.pathSize, spread);
    }

    public int pathTime(int node) throws IndexOutOfBoundsException, NoSuchElementException {
        Routes tables = routesTo(node);
        prediction.copyFrom(world);
        return prediction.driveAlong(tables.path, tables.pathSize, false);
    }

    public int waitFor(int seconds) throws IllegalArgumentException, IllegalStateException {
        if (seconds < 0 || seconds > MAX_WAIT) {
            throw new IllegalArgumentException();
        }
        if (world.clock + seconds > MAX_TIME) {
            throw new IllegalStateException();
        }
        if (seconds > 0) {
            history.keep(network, world);
            world.clock += seconds;
        }
        return world.clock;
    }

    public int refill() throws IllegalStateException {
        if (network.nodes == 0 || world.place != network.depot) {
            throw new IllegalStateException();
        }
        int added = network.capacity - world.salt;
        if (added > 0) {
            history.keep(network, world);
            world.salt = network.capacity;
        }
        return added;
    }

    public int setFall(int rate) throws IllegalArgumentException {
        if (rate < 0 || rate > MAX_FALL) {
            throw new IllegalArgumentException();
        }
        int previous = world.rate;
        if (rate != previous) {
            history.keep(network, world);
            world.changeRate(rate);
        }
        return previous;
    }

    public int saltUsed() {
        return world.spent;
    }

    public int distance() {
        return world.driven;
    }

    public int turnsMade(int kind) throws IllegalArgumentException {
        checkKind(kind);
        return world.turnCounts[kind];
    }

    public int passes(int arc) throws IndexOutOfBoundsException {
        checkArc(arc);
        return world.passCounts[arc];
    }

    public int untouched(int roadClass) throws IllegalArgumentException {
        checkClass(roadClass);
        int rest = network.arcsUpTo(roadClass);
        for (int arc = 0; arc < MAX_ARCS; arc++) {
            if (world.passCounts[arc] > 0) {
                rest &= ~(1 << arc);
            }
        }
        return rest;
    }

    // Undo and output

    public int undo() throws IllegalStateException {
        if (!history.restore(network, world)) {
            throw new IllegalStateException();
        }
        return history.count;
    }

    public int undoCount() {
        return history.count;
    }

    public int writeNetwork() {
        output.size = 0;
        network.writeNodes(output);
        network.writeRoads(output);
        network.writeSettings(output);
        network.writeSnow(output);
        output.putText("fall ");
        output.putNumber(world.rate);
        output.putText(";");
        return output.size;
    }

    public int outputByte(int index) throws IndexOutOfBoundsException {
        if (index < 0 || index >= output.size) {
            throw new IndexOutOfBoundsException();
        }
        return output.bytes[index];
    }

    // What several methods share

    private void checkArc(int arc) {
        if (!network.hasArc(arc)) {
            throw new IndexOutOfBoundsException();
        }
    }

    private void checkNode(int node) {
        if (node < 0 || node >= network.nodes) {
            throw new IndexOutOfBoundsException();
        }
    }

    private void checkDrivable(int arc) {
        checkArc(arc);
        if (network.beginOf(arc) != world.place) {
            throw new IllegalStateException();
        }
    }

    private static void checkKind(int kind) {
        if (kind < 0 || kind >= KINDS) {
            throw new IllegalArgumentException();
        }
    }

    private static void checkClass(int roadClass) {
        if (roadClass < 1 || roadClass > CLASSES) {
            throw new IllegalArgumentException();
        }
    }

    private static void checkDepth(int depth) {
        if (depth < 0 || depth > MAX_DEPTH) {
            throw new IllegalArgumentException();
        }
    }

    private static void checkSeconds(int seconds) {
        if (seconds < 0 || seconds > MAX_TIME) {
            throw new IllegalArgumentException();
        }
    }

    private static boolean contains(int set, int element) {
        return (set >> element & 1) != 0;
    }

    /**
     * A name with one letter more. A name is a number to the base 27 whose digits, 1 to 26, are its letters,
     * so that none needs an object of its own.
     */
    private static int nameWith(int name, int letter) {
        return name * 27 + letter - 'a' + 1;
    }

    private static boolean isLetter(int sign) {
        return sign >= 'a' && sign <= 'z';
    }

    private static int known(int cost) {
        return cost >= FAR ? NONE : cost;
    }

    private Routes freshRoutes() {
        routes.refresh();
        return routes;
    }

    /** Routes whose path leads from the plough to the node; the path is empty if it is there. */
    private Routes routesTo(int node) {
        checkNode(node);
        Routes tables = freshRoutes();
        if (!tables.findPath(world.place, node)) {
            throw new NoSuchElementException();
        }
        return tables;
    }

    private Planner solvedPlan(int roadClass) {
        checkClass(roadClass);
        if (Integer.bitCount(network.arcsUpTo(roadClass)) > MAX_PLAN) {
            throw new IllegalStateException();
        }
        routes.refresh();
        planner.solve(roadClass);
        return planner;
    }

    private boolean predictDriveTo(int node, boolean spread) {
        if (!routes.findPath(prediction.place, node)) {
            return false;
        }
        prediction.driveAlong(routes.path, routes.pathSize, spread);
        return true;
    }

    /** Bytes in a row of fixed room; the input and the output are one each. */
    private static final class Buffer {
        final byte[] bytes = new byte[MAX_INPUT];
        int size = 0;

        void put(int value) {
            if (size < bytes.length) {
                bytes[size] = (byte) value;
                size++;
            }
        }

        void putInt(int value) {
            put(value >>> 24);
            put(value >>> 16);
            put(value >>> 8);
            put(value);
        }

        void putText(String text) {
            for (int i = 0; i < text.length(); i++) {
                put(text.charAt(i));
            }
        }

        /** Writes a number of at most four digits: no number of a network has more. */
        void putNumber(int number) {
            for (int unit = 1000; unit >= 1; unit /= 10) {
                if (number >= unit || unit == 1) {
                    put('0' + number / unit % 10);
                }
            }
        }

        void putName(int name) {
            for (int unit = 14348907; unit >= 1; unit /= 27) {
                int letter = name / unit % 27;
                if (letter > 0) {
                    put('a' + letter - 1);
                }
            }
        }

        /** The name that is the whole content; NONE if there are not 1 to 6 letters. */
        int wholeName() {
            if (size < 1 || size > MAX_NAME) {
                return NONE;
            }
            int name = 0;
            for (int i = 0; i < size; i++) {
                if (!isLetter(bytes[i])) {
                    return NONE;
                }
                name = nameWith(name, bytes[i]);
            }
            return name;
        }
    }

    /** Reads the statements of the input into a network. */
    private static final class Parser {
        private static final int END = 0;
        private static final int WORD = 1;
        private static final int NUMBER = 2;
        private static final int SYMBOL = 3;

        private static final int MISPLACED = 1;
        private static final int OUT_OF_RANGE = 2;
        private static final int REPEATED = 3;
        private static final int UNKNOWN = 4;
        private static final int TOO_MANY = 5;

        private static final int NODE = 0;
        private static final int ROAD = 1;
        private static final int ONEWAY = 2;
        private static final int TURNS = 3;
        private static final int DEPOT = 4;
        private static final int SALT = 5;
        private static final int SPREAD = 6;
        private static final int SNOW = 7;
        private static final int FALL = 8;

        /** Above every range, and far enough below the largest int to be multiplied by ten. */
        private static final int HUGE = 100000;

        final Buffer input;
        final Network network;
        final int[] keywords = new int[9];
        int error = 0;
        int errorAt = NONE;
        int sort = END;
        int start = 0;
        int end = 0;
        /** The name, the number or the symbol of the token; NONE for a word that is too long for a name. */
        int value = NONE;
        int keyword = NONE;
        int settingsSeen = 0;

        Parser(Buffer text, Network target) {
            input = text;
            network = target;
            keywords[NODE] = nameOf("node");
            keywords[ROAD] = nameOf("road");
            keywords[ONEWAY] = nameOf("oneway");
            keywords[TURNS] = nameOf("turns");
            keywords[DEPOT] = nameOf("depot");
            keywords[SALT] = nameOf("salt");
            keywords[SPREAD] = nameOf("spread");
            keywords[SNOW] = nameOf("snow");
            keywords[FALL] = nameOf("fall");
        }

        private static int nameOf(String word) {
            int name = 0;
            for (int i = 0; i < word.length(); i++) {
                name = nameWith(name, word.charAt(i));
            }
            return name;
        }

        boolean parse() {
            network.reset();
            error = 0;
            errorAt = NONE;
            settingsSeen = 0;
            end = 0;
            advance();
            for (int i = 0; i <= MAX_INPUT && sort != END; i++) {
                if (!readStatement()) {
                    return false;
                }
            }
            if (network.depot == NONE && network.nodes > 0) {
                network.depot = 0;
            }
            return true;
        }

        private boolean readStatement() {
            switch (keyword) {
                case NODE:
                    return readNode();
                case ROAD:
                    return readRoad();
                case SNOW:
                    return readSnow();
                case NONE:
                case ONEWAY:
                    return fail(MISPLACED);
                default:
                    return readSetting(keyword);
            }
        }

        private boolean readSetting(int setting) {
            if (contains(settingsSeen, setting)) {
                return fail(REPEATED);
            }
            settingsSeen |= 1 << setting;
            advance();
            boolean correct;
            switch (setting) {
                case TURNS:
                    correct = readRow(network.turnCosts);
                    break;
                case DEPOT:
                    network.depot = readKnownNode();
                    correct = network.depot != NONE;
                    break;
                case SALT:
                    network.capacity = readNumber(0, 9999);
                    correct = network.capacity != NONE;
                    break;
                case SPREAD:
                    correct = readRow(network.saltRates);
                    break;
                default:
                    network.firstRate = readNumber(0, MAX_FALL);
                    correct = network.firstRate != NONE;
                    break;
            }
            return correct && readEnd();
        }

        private boolean readRow(int[] row) {
            for (int i = 0; i < row.length; i++) {
                if (!isNumberIn(0, 99)) {
                    return false;
                }
                row[i] = value;
                advance();
            }
            return true;
        }

        private boolean readNode() {
            if (network.nodes >= MAX_NODES) {
                return fail(TOO_MANY);
            }
            advance();
            int name = value;
            if (!isName()) {
                return fail(MISPLACED);
            }
            if (network.nodeNamed(name) != NONE) {
                return fail(REPEATED);
            }
            advance();
            int x = readNumber(0, 99);
            if (x == NONE || !isNumberIn(0, 99)) {
                return false;
            }
            if (network.nodeAt(x, value) != NONE) {
                return fail(REPEATED);
            }
            network.addNode(name, x, value);
            advance();
            return readEnd();
        }

        private boolean readRoad() {
            if (network.roads >= MAX_ROADS) {
                return fail(TOO_MANY);
            }
            advance();
            int name = value;
            if (!isName()) {
                return fail(MISPLACED);
            }
            if (network.roadNamed(name) != NONE) {
                return fail(REPEATED);
            }
            advance();
            int from = readKnownNode();
            if (from == NONE) {
                return false;
            }
            if (isName() && network.nodeNamed(value) == from) {
                return fail(REPEATED);
            }
            int to = readKnownNode();
            int length = to == NONE ? NONE : readNumber(1, 999);
            int roadClass = length == NONE ? NONE : readNumber(1, CLASSES);
            if (roadClass == NONE) {
                return false;
            }
            boolean oneway = keyword == ONEWAY;
            if (oneway) {
                advance();
            }
            network.addRoad(name, from, to, length, roadClass, oneway);
            return readEnd();
        }

        private boolean readSnow() {
            advance();
            if (!isName()) {
                return fail(MISPLACED);
            }
            int road = network.roadNamed(value);
            if (road == NONE) {
                return fail(UNKNOWN);
            }
            advance();
            int depth = readNumber(0, 999);
            if (depth == NONE) {
                return false;
            }
            network.firstSnow[road] = depth;
            return readEnd();
        }

        private boolean readEnd() {
            if (sort != SYMBOL || value != ';') {
                return fail(MISPLACED);
            }
            advance();
            return true;
        }

        private int readKnownNode() {
            if (!isName()) {
                fail(MISPLACED);
                return NONE;
            }
            int node = network.nodeNamed(value);
            if (node == NONE) {
                fail(UNKNOWN);
                return NONE;
            }
            advance();
            return node;
        }

        private int readNumber(int least, int greatest) {
            if (!isNumberIn(least, greatest)) {
                return NONE;
            }
            int number = value;
            advance();
            return number;
        }

        /** Stays at the token: a check that follows may find another error in it. */
        private boolean isNumberIn(int least, int greatest) {
            if (sort != NUMBER) {
                return fail(MISPLACED);
            }
            if (value < least || value > greatest) {
                return fail(OUT_OF_RANGE);
            }
            return true;
        }

        private boolean isName() {
            return sort == WORD && value != NONE && keyword == NONE;
        }

        private boolean fail(int code) {
            error = code;
            errorAt = start;
            return false;
        }

        private void advance() {
            start = end;
            while (start < input.size && (input.bytes[start] == ' ' || input.bytes[start] == '\n')) {
                start++;
            }
            end = start;
            keyword = NONE;
            if (start >= input.size) {
                sort = END;
            } else if (isLetter(input.bytes[start])) {
                takeWord();
            } else if (isDigit(input.bytes[start])) {
                takeNumber();
            } else {
                sort = SYMBOL;
                value = input.bytes[start];
                end = start + 1;
            }
        }

        private void takeWord() {
            sort = WORD;
            value = 0;
            while (end < input.size && isLetter(input.bytes[end])) {
                boolean fits = end - start < MAX_NAME;
                value = fits ? nameWith(value, input.bytes[end]) : NONE;
                end++;
            }
            for (int i = 0; i < keywords.length; i++) {
                if (keywords[i] == value) {
                    keyword = i;
                }
            }
        }

        private void takeNumber() {
            sort = NUMBER;
            value = 0;
            while (end < input.size && isDigit(input.bytes[end])) {
                value = Math.min(HUGE, value * 10 + input.bytes[end] - '0');
                end++;
            }
        }

        private static boolean isDigit(int sign) {
            return sign >= '0' && sign <= '9';
        }
    }

    /** What one text says: nodes, roads and settings. Only a load or an undo changes it. */
    private static final class Network {
        /** A number of its own for each loaded text: tables made for another one are stale. */
        int serial = 0;
        int nodes = 0;
        int roads = 0;
        int depot = NONE;
        int capacity = 0;
        int firstRate = 0;
        /** The set of the roads that can be driven in one direction only. */
        int oneways = 0;
        final int[] nodeNames = new int[MAX_NODES];
        final int[] xs = new int[MAX_NODES];
        final int[] ys = new int[MAX_NODES];
        final int[] roadNames = new int[MAX_ROADS];
        final int[] froms = new int[MAX_ROADS];
        final int[] tos = new int[MAX_ROADS];
        final int[] lengths = new int[MAX_ROADS];
        final int[] classes = new int[MAX_ROADS];
        final int[] firstSnow = new int[MAX_ROADS];
        final int[] turnCosts = new int[KINDS];
        final int[] saltRates = new int[CLASSES];

        Network() {
            reset();
        }

        void reset() {
            nodes = 0;
            roads = 0;
            depot = NONE;
            capacity = 500;
            firstRate = 0;
            oneways = 0;
            turnCosts[0] = 0;
            turnCosts[1] = 2;
            turnCosts[2] = 5;
            turnCosts[3] = 20;
            saltRates[0] = 20;
            saltRates[1] = 10;
            saltRates[2] = 5;
        }

        void copyFrom(Network other) {
            serial = other.serial;
            nodes = other.nodes;
            roads = other.roads;
            depot = other.depot;
            capacity = other.capacity;
            firstRate = other.firstRate;
            oneways = other.oneways;
            System.arraycopy(other.nodeNames, 0, nodeNames, 0, MAX_NODES);
            System.arraycopy(other.xs, 0, xs, 0, MAX_NODES);
            System.arraycopy(other.ys, 0, ys, 0, MAX_NODES);
            System.arraycopy(other.roadNames, 0, roadNames, 0, MAX_ROADS);
            System.arraycopy(other.froms, 0, froms, 0, MAX_ROADS);
            System.arraycopy(other.tos, 0, tos, 0, MAX_ROADS);
            System.arraycopy(other.lengths, 0, lengths, 0, MAX_ROADS);
            System.arraycopy(other.classes, 0, classes, 0, MAX_ROADS);
            System.arraycopy(other.firstSnow, 0, firstSnow, 0, MAX_ROADS);
            System.arraycopy(other.turnCosts, 0, turnCosts, 0, KINDS);
            System.arraycopy(other.saltRates, 0, saltRates, 0, CLASSES);
        }

        void addNode(int name, int x, int y) {
            if (nodes < MAX_NODES) {
                nodeNames[nodes] = name;
                xs[nodes] = x;
                ys[nodes] = y;
                nodes++;
            }
        }

        void addRoad(int name, int from, int to, int length, int roadClass, boolean oneway) {
            if (roads < MAX_ROADS) {
                roadNames[roads] = name;
                froms[roads] = from;
                tos[roads] = to;
                lengths[roads] = length;
                classes[roads] = roadClass;
                firstSnow[roads] = 0;
                oneways |= oneway ? 1 << roads : 0;
                roads++;
            }
        }

        int nodeNamed(int name) {
            for (int node = 0; node < nodes; node++) {
                if (nodeNames[node] == name) {
                    return node;
                }
            }
            return NONE;
        }

        int nodeAt(int x, int y) {
            for (int node = 0; node < nodes; node++) {
                if (xs[node] == x && ys[node] == y) {
                    return node;
                }
            }
            return NONE;
        }

        int roadNamed(int name) {
            for (int road = 0; road < roads; road++) {
                if (roadNames[road] == name) {
                    return road;
                }
            }
            return NONE;
        }

        boolean hasArc(int arc) {
            return arc >= 0 && arc < 2 * roads && ((arc & 1) == 0 || !contains(oneways, arc >> 1));
        }

        int beginOf(int arc) {
            if (arc < 0 || arc >= MAX_ARCS) {
                return NONE;
            }
            return (arc & 1) == 0 ? froms[arc >> 1] : tos[arc >> 1];
        }

        int endOf(int arc) {
            if (arc < 0 || arc >= MAX_ARCS) {
                return NONE;
            }
            return (arc & 1) == 0 ? tos[arc >> 1] : froms[arc >> 1];
        }

        int lengthOf(int arc) {
            return arc < 0 || arc >= MAX_ARCS ? 0 : lengths[arc >> 1];
        }

        int classOf(int arc) {
            return arc < 0 || arc >= MAX_ARCS ? NONE : classes[arc >> 1];
        }

        int saltFor(int arc) {
            int roadClass = classOf(arc);
            if (roadClass < 1 || roadClass > CLASSES) {
                return 0;
            }
            return lengthOf(arc) * saltRates[roadClass - 1] / 100;
        }

        int arcsUpTo(int roadClass) {
            int set = 0;
            for (int arc = 0; arc < MAX_ARCS; arc++) {
                if (hasArc(arc) && classOf(arc) <= roadClass) {
                    set |= 1 << arc;
                }
            }
            return set;
        }

        int turnKind(int from, int to) {
            int dx1 = xOf(endOf(from)) - xOf(beginOf(from));
            int dy1 = yOf(endOf(from)) - yOf(beginOf(from));
            int dx2 = xOf(endOf(to)) - xOf(beginOf(to));
            int dy2 = yOf(endOf(to)) - yOf(beginOf(to));
            int cross = dx1 * dy2 - dy1 * dx2;
            if (cross != 0) {
                return cross > 0 ? 2 : 1;
            }
            return dx1 * dx2 + dy1 * dy2 > 0 ? 0 : 3;
        }

        private int xOf(int node) {
            return node < 0 || node >= MAX_NODES ? 0 : xs[node];
        }

        private int yOf(int node) {
            return node < 0 || node >= MAX_NODES ? 0 : ys[node];
        }

        int reachableFrom(int node, int closedRoad) {
            int set = 1 << node;
            for (int round = 1; round < nodes; round++) {
                for (int arc = 0; arc < MAX_ARCS; arc++) {
                    if (hasArc(arc) && arc >> 1 != closedRoad && contains(set, beginOf(arc))) {
                        set |= 1 << endOf(arc);
                    }
                }
            }
            return set;
        }

        boolean isConnectedWithout(int closedRoad) {
            for (int node = 0; node < nodes; node++) {
                if (reachableFrom(node, closedRoad) != (1 << nodes) - 1) {
                    return false;
                }
            }
            return true;
        }

        void writeNodes(Buffer output) {
            for (int node = 0; node < nodes; node++) {
                output.putText("node ");
                output.putName(nodeNames[node]);
                output.putText(" ");
                output.putNumber(xs[node]);
                output.putText(" ");
                output.putNumber(ys[node]);
                output.putText(";");
            }
        }

        void writeRoads(Buffer output) {
            for (int road = 0; road < roads; road++) {
                output.putText("road ");
                output.putName(roadNames[road]);
                output.putText(" ");
                writeNodeName(output, froms[road]);
                output.putText(" ");
                writeNodeName(output, tos[road]);
                output.putText(" ");
                output.putNumber(lengths[road]);
                output.putText(" ");
                output.putNumber(classes[road]);
                output.putText(contains(oneways, road) ? " oneway;" : ";");
            }
        }

        void writeSettings(Buffer output) {
            output.putText("turns");
            writeRow(output, turnCosts);
            if (nodes > 0) {
                output.putText("depot ");
                writeNodeName(output, depot);
                output.putText(";");
            }
            output.putText("salt ");
            output.putNumber(capacity);
            output.putText(";spread");
            writeRow(output, saltRates);
        }

        void writeSnow(Buffer output) {
            for (int road = 0; road < roads; road++) {
                if (firstSnow[road] != 0) {
                    output.putText("snow ");
                    output.putName(roadNames[road]);
                    output.putText(" ");
                    output.putNumber(firstSnow[road]);
                    output.putText(";");
                }
            }
        }

        private void writeNodeName(Buffer output, int node) {
            if (node >= 0 && node < nodes) {
                output.putName(nodeNames[node]);
            }
        }

        private static void writeRow(Buffer output, int[] row) {
            for (int i = 0; i < row.length; i++) {
                output.putText(" ");
                output.putNumber(row[i]);
            }
            output.putText(";");
        }
    }

    /** Time, snow and the plough: all that changes between loads. */
    private static final class World {
        final Network network;
        int clock = 0;
        int place = NONE;
        int last = NONE;
        int salt = 0;
        int spent = 0;
        int driven = 0;
        int rate = 0;
        final int[] turnCounts = new int[KINDS];
        final int[] passCounts = new int[MAX_ARCS];
        final int[] baseDepths = new int[MAX_ARCS];
        final int[] baseTimes = new int[MAX_ARCS];

        World(Network map) {
            network = map;
            salt = map.capacity;
        }

        void begin() {
            clock = 0;
            place = network.depot;
            last = NONE;
            salt = network.capacity;
            spent = 0;
            driven = 0;
            rate = network.firstRate;
            Arrays.fill(turnCounts, 0);
            Arrays.fill(passCounts, 0);
            Arrays.fill(baseTimes, 0);
            for (int arc = 0; arc < MAX_ARCS; arc++) {
                baseDepths[arc] = network.hasArc(arc) ? network.firstSnow[arc >> 1] : 0;
            }
        }

        void copyFrom(World other) {
            clock = other.clock;
            place = other.place;
            last = other.last;
            salt = other.salt;
            spent = other.spent;
            driven = other.driven;
            rate = other.rate;
            System.arraycopy(other.turnCounts, 0, turnCounts, 0, KINDS);
            System.arraycopy(other.passCounts, 0, passCounts, 0, MAX_ARCS);
            System.arraycopy(other.baseDepths, 0, baseDepths, 0, MAX_ARCS);
            System.arraycopy(other.baseTimes, 0, baseTimes, 0, MAX_ARCS);
        }

        int snowAfter(int arc, int seconds) {
            if (arc < 0 || arc >= MAX_ARCS) {
                return 0;
            }
            // Drives may carry the time far beyond the limit of waiting: the product may leave an int.
            long falling = Math.max(0L, (long) clock + seconds - baseTimes[arc]);
            long depth = baseDepths[arc] + rate * falling / 3600;
            return (int) Math.min((long) MAX_DEPTH, depth);
        }

        int deepestOf(int set, int seconds) {
            int deepest = NONE;
            int most = NONE;
            for (int arc = 0; arc < MAX_ARCS; arc++) {
                if (contains(set, arc) && snowAfter(arc, seconds) > most) {
                    most = snowAfter(arc, seconds);
                    deepest = arc;
                }
            }
            return deepest;
        }

        int deeperThan(int limit) {
            int set = 0;
            for (int arc = 0; arc < MAX_ARCS; arc++) {
                if (network.hasArc(arc) && snowAfter(arc, 0) > limit) {
                    set |= 1 << arc;
                }
            }
            return set;
        }

        int secondsUntil(int arc, int depth) {
            if (snowAfter(arc, 0) >= depth) {
                return 0;
            }
            if (rate <= 0 || arc < 0 || arc >= MAX_ARCS) {
                return NONE;
            }
            long missing = (depth - baseDepths[arc]) * 3600L;
            long seconds = baseTimes[arc] + (missing + rate - 1) / rate - clock;
            return seconds > MAX_TIME ? NONE : (int) seconds;
        }

        void changeRate(int newRate) {
            for (int arc = 0; arc < MAX_ARCS; arc++) {
                baseDepths[arc] = snowAfter(arc, 0);
                baseTimes[arc] = Math.max(baseTimes[arc], clock);
            }
            rate = newRate;
        }

        int secondsFor(int arc) {
            int length = network.lengthOf(arc);
            int turning = last == NONE ? 0 : network.turnCosts[network.turnKind(last, arc)];
            return turning + length + length * snowAfter(arc, 0) / 100;
        }

        int driveArc(int arc, boolean spread) {
            if (arc < 0 || arc >= MAX_ARCS) {
                return 0;
            }
            int seconds = secondsFor(arc);
            if (last != NONE) {
                turnCounts[network.turnKind(last, arc)]++;
            }
            clock += seconds;
            place = network.endOf(arc);
            last = arc;
            driven += network.lengthOf(arc);
            passCounts[arc]++;
            baseDepths[arc] = 0;
            baseTimes[arc] = clock;
            int needed = network.saltFor(arc);
            if (spread && salt >= needed) {
                salt -= needed;
                spent += needed;
                baseTimes[arc] = clock + SALT_SECONDS;
            }
            return seconds;
        }

        int driveAlong(int[] path, int size, boolean spread) {
            int seconds = 0;
            for (int i = 0; i < size && i < path.length; i++) {
                seconds += driveArc(path[i], spread);
            }
            return seconds;
        }
    }

    /**
     * Least costs between places, and the best routes that follow from them. A place is an arc, by its number, or a
     * node, by a number behind those of all arcs. A route that begins in an arc's place begins behind the arc, so that
     * the next turn costs; one that ends there ends with the arc.
     */
    private static final class Routes {
        private static final int PLACES = MAX_ARCS + MAX_NODES;

        final Network network;
        int builtFor = NONE;
        /** The cost of the next arc from a place: the turn, if there is one, and the arc's length. */
        final int[] steps = new int[PLACES * MAX_ARCS];
        /** The cost of the best route behind an arc that ends in a place; 0 if the arc is or ends there. */
        final int[] costs = new int[MAX_ARCS * PLACES];
        final int[] path = new int[MAX_ARCS];
        int pathSize = 0;

        Routes(Network map) {
            network = map;
        }

        void refresh() {
            if (builtFor == network.serial) {
                return;
            }
            Arrays.fill(steps, FAR);
            Arrays.fill(costs, FAR);
            for (int arc = 0; arc < MAX_ARCS; arc++) {
                if (network.hasArc(arc)) {
                    findStepsTo(arc);
                }
            }
            for (int arc = 0; arc < MAX_ARCS; arc++) {
                if (network.hasArc(arc)) {
                    findArcCostsFrom(arc);
                    findNodeCostsFrom(arc);
                }
            }
            builtFor = network.serial;
        }

        private void findStepsTo(int to) {
            int begin = network.beginOf(to);
            int length = network.lengthOf(to);
            if (begin >= 0 && begin < MAX_NODES) {
                steps[placeOf(begin) * MAX_ARCS + to] = length;
            }
            for (int from = 0; from < MAX_ARCS; from++) {
                if (network.hasArc(from) && network.endOf(from) == begin) {
                    steps[from * MAX_ARCS + to] = network.turnCosts[network.turnKind(from, to)] + length;
                }
            }
        }

        /** Dijkstra's algorithm over arcs instead of nodes, because turns cost. */
        private void findArcCostsFrom(int source) {
            int row = source * PLACES;
            int settled = 0;
            costs[row + source] = 0;
            for (int round = 0; round < MAX_ARCS; round++) {
                int nearest = nearestUnsettled(row, settled);
                if (nearest == NONE) {
                    return;
                }
                settled |= 1 << nearest;
                for (int to = 0; to < MAX_ARCS; to++) {
                    int cost = costs[row + nearest] + steps[nearest * MAX_ARCS + to];
                    costs[row + to] = Math.min(costs[row + to], cost);
                }
            }
        }

        private int nearestUnsettled(int row, int settled) {
            int nearest = NONE;
            int least = FAR;
            for (int arc = 0; arc < MAX_ARCS; arc++) {
                if (!contains(settled, arc) && costs[row + arc] < least) {
                    least = costs[row + arc];
                    nearest = arc;
                }
            }
            return nearest;
        }

        private void findNodeCostsFrom(int source) {
            int row = source * PLACES;
            for (int arc = 0; arc < MAX_ARCS; arc++) {
                int node = network.endOf(arc);
                if (network.hasArc(arc) && node >= 0 && node < MAX_NODES) {
                    int index = row + placeOf(node);
                    costs[index] = Math.min(costs[index], costs[row + arc]);
                }
            }
        }

        static int placeOf(int node) {
            return MAX_ARCS + node;
        }

        /** The cost of the best route behind an arc that ends in a place. */
        int costBehind(int arc, int goal) {
            boolean inside = arc >= 0 && arc < MAX_ARCS && goal >= 0 && goal < PLACES;
            return inside ? costs[arc * PLACES + goal] : FAR;
        }

        private int stepCost(int place, int arc) {
            boolean inside = place >= 0 && place < PLACES && arc >= 0 && arc < MAX_ARCS;
            return inside ? steps[place * MAX_ARCS + arc] : FAR;
        }

        /** The lowest arc with which a least route of at least one arc begins, and so the best route. */
        int firstArc(int place, int goal) {
            int first = NONE;
            int least = FAR;
            for (int arc = 0; arc < MAX_ARCS; arc++) {
                int cost = stepCost(place, arc) + costBehind(arc, goal);
                if (cost < least) {
                    least = cost;
                    first = arc;
                }
            }
            return first;
        }

        /** The cost of the best route of at least one arc: it may lead back to the place where it begins. */
        int costFrom(int place, int goal) {
            int first = firstArc(place, goal);
            return first == NONE ? FAR : stepCost(place, first) + costBehind(first, goal);
        }

        int costBetween(int from, int to) {
            return from == to ? 0 : costFrom(placeOf(from), placeOf(to));
        }

        /** Puts the best route between two nodes into the path; false if there is none. */
        boolean findPath(int from, int to) {
            pathSize = 0;
            int node = from;
            int place = placeOf(from);
            // Each arc costs: a best route drives none twice, and ends as soon as it is there.
            for (int i = 0; i < MAX_ARCS && node != to; i++) {
                int arc = firstArc(place, placeOf(to));
                if (arc == NONE) {
                    return false;
                }
                path[i] = arc;
                pathSize = i + 1;
                place = arc;
                node = network.endOf(arc);
            }
            return node == to;
        }

        int farthestFrom(int node) {
            int farthest = 0;
            for (int to = 0; to < network.nodes; to++) {
                farthest = Math.max(farthest, costBetween(node, to));
            }
            return farthest;
        }

        int nearestArc(int place, int set) {
            int nearest = NONE;
            int least = FAR;
            for (int arc = 0; arc < MAX_ARCS; arc++) {
                int cost = contains(set, arc) ? costFrom(place, arc) : FAR;
                if (cost < least) {
                    least = cost;
                    nearest = arc;
                }
            }
            return nearest;
        }

        int greedyCost(int required) {
            int missing = required;
            int place = placeOf(network.depot);
            int cost = 0;
            for (int i = 0; i < MAX_ARCS && missing != 0; i++) {
                int arc = nearestArc(place, missing);
                if (arc == NONE) {
                    return NONE;
                }
                cost += costFrom(place, arc);
                // The route has no other missing arc: that one would have been nearer.
                missing &= ~(1 << arc);
                place = arc;
            }
            return required == 0 ? 0 : known(cost + costBehind(place, placeOf(network.depot)));
        }
    }

    /** Best plans, one for each class, kept until the network changes. */
    private static final class Planner {
        final Network network;
        final Routes routes;
        final int[] builtFor = new int[CLASSES];
        final int[] sizes = new int[CLASSES];
        final int[] costs = new int[CLASSES];
        final int[] orders = new int[CLASSES * MAX_PLAN];
        final int[] items = new int[MAX_PLAN];
        /** The cost of the best route from the depot that ends with an item. */
        final int[] entries = new int[MAX_PLAN];
        int count = 0;
        /** For each set of missing items and an item before them: the least cost of the rest of the tour. */
        int[] rests = new int[MAX_PLAN];

        Planner(Network map, Routes tables) {
            network = map;
            routes = tables;
            Arrays.fill(builtFor, NONE);
        }

        int sizeOf(int roadClass) {
            return isClass(roadClass) ? sizes[roadClass - 1] : 0;
        }

        int costOf(int roadClass) {
            return isClass(roadClass) ? costs[roadClass - 1] : NONE;
        }

        int arcAt(int roadClass, int index) {
            if (!isClass(roadClass) || index < 0 || index >= sizes[roadClass - 1]) {
                return NONE;
            }
            return orders[(roadClass - 1) * MAX_PLAN + index];
        }

        private static boolean isClass(int roadClass) {
            return roadClass >= 1 && roadClass <= CLASSES;
        }

        void solve(int roadClass) {
            if (!isClass(roadClass) || builtFor[roadClass - 1] == network.serial) {
                return;
            }
            collectItems(network.arcsUpTo(roadClass));
            fillRests();
            int cost = count == 0 ? 0 : bestCost(NONE, (1 << count) - 1);
            if (cost < FAR) {
                chooseOrder((roadClass - 1) * MAX_PLAN);
            }
            costs[roadClass - 1] = known(cost);
            sizes[roadClass - 1] = cost < FAR ? count : 0;
            builtFor[roadClass - 1] = network.serial;
        }

        private void collectItems(int set) {
            count = 0;
            for (int arc = 0; arc < MAX_ARCS; arc++) {
                if (contains(set, arc) && count < MAX_PLAN) {
                    items[count] = arc;
                    entries[count] = routes.costFrom(Routes.placeOf(network.depot), arc);
                    count++;
                }
            }
        }

        private void fillRests() {
            int sets = 1 << count;
            if (rests.length < sets * count) {
                rests = new int[sets * count];
            }
            for (int missing = 0; missing < sets; missing++) {
                for (int last = 0; last < count; last++) {
                    if (!contains(missing, last)) {
                        rests[missing * count + last] = bestCost(last, missing);
                    }
                }
            }
        }

        /** The least cost of the tour behind the last item (NONE: of all of it) that has the missing ones. */
        private int bestCost(int last, int missing) {
            if (missing == 0) {
                return routes.costBehind(last == NONE ? NONE : items[last], Routes.placeOf(network.depot));
            }
            int least = FAR;
            for (int next = 0; next < count; next++) {
                if (contains(missing, next)) {
                    least = Math.min(least, costThrough(last, next, missing));
                }
            }
            return least;
        }

        private int costThrough(int last, int next, int missing) {
            int way = last == NONE ? entries[next] : routes.costBehind(items[last], items[next]);
            return way + rests[(missing & ~(1 << next)) * count + next];
        }

        private void chooseOrder(int place) {
            int missing = (1 << count) - 1;
            int last = NONE;
            for (int i = 0; i < count; i++) {
                int least = bestCost(last, missing);
                int next = 0;
                while (next < count - 1 && !(contains(missing, next) && costThrough(last, next, missing) == least)) {
                    next++;
                }
                orders[place + i] = items[next];
                missing &= ~(1 << next);
                last = next;
            }
        }

        int turnsOf(int roadClass, int kind) {
            int turns = 0;
            int last = NONE;
            for (int i = 0; i < sizeOf(roadClass); i++) {
                int target = arcAt(roadClass, i);
                for (int step = 0; step < MAX_ARCS && last != target; step++) {
                    int arc = routes.firstArc(last == NONE ? Routes.placeOf(network.depot) : last, target);
                    turns += isTurn(last, arc, kind);
                    last = arc;
                }
            }
            for (int step = 0; step < MAX_ARCS && last != NONE && network.endOf(last) != network.depot; step++) {
                int arc = routes.firstArc(last, Routes.placeOf(network.depot));
                turns += isTurn(last, arc, kind);
                last = arc;
            }
            return turns;
        }

        private int isTurn(int from, int to, int kind) {
            return from != NONE && to != NONE && network.turnKind(from, to) == kind ? 1 : 0;
        }
    }

    /** The network and the world as they were before a call. */
    private static final class Snapshot {
        final Network network;
        final World world;

        Snapshot() {
            Network map = new Network();
            network = map;
            world = new World(map);
        }
    }

    /** The latest snapshots in a ring, made once and used again. */
    private static final class History {
        final Snapshot[] ring = new Snapshot[MAX_UNDO];
        int next = 0;
        int count = 0;

        void keep(Network network, World world) {
            if (ring[next] == null) {
                ring[next] = new Snapshot();
            }
            ring[next].network.copyFrom(network);
            ring[next].world.copyFrom(world);
            next = (next + 1) % MAX_UNDO;
            count = Math.min(MAX_UNDO, count + 1);
        }

        boolean restore(Network network, World world) {
            int latest = (next + MAX_UNDO - 1) % MAX_UNDO;
            Snapshot snapshot = ring[latest];
            if (count == 0 || snapshot == null) {
                return false;
            }
            network.copyFrom(snapshot.network);
            world.copyFrom(snapshot.world);
            next = latest;
            count--;
            return true;
        }
    }
}
