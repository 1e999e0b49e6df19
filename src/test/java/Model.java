import java.util.ArrayDeque;
import java.util.ArrayList;
import java.util.Arrays;
import java.util.Comparator;
import java.util.Deque;
import java.util.HashMap;
import java.util.HashSet;
import java.util.LinkedHashSet;
import java.util.List;
import java.util.Map;
import java.util.NoSuchElementException;
import java.util.PriorityQueue;
import java.util.Set;
import java.util.TreeSet;

/**
 * The document told a second time, as plainly as the Java library allows: whole routes in a queue instead of tables,
 * whole orders instead of sums, a new state for each call. ModelTest compares SnowPlough with it.
 */
public final class Model {
    private record Node(String name, int x, int y) {
    }

    private record Road(String name, int from, int to, int length, int roadClass, boolean oneway) {
    }

    private record Token(char sort, String text, int at) {
    }

    private record Route(long cost, List<Integer> arcs) {
        int end() {
            return arcs.get(arcs.size() - 1);
        }
    }

    private static final Comparator<Route> BETTER = (a, b) -> {
        if (a.cost != b.cost) {
            return Long.compare(a.cost, b.cost);
        }
        for (int i = 0; i < Math.min(a.arcs.size(), b.arcs.size()); i++) {
            if (!a.arcs.get(i).equals(b.arcs.get(i))) {
                return a.arcs.get(i) - b.arcs.get(i);
            }
        }
        return a.arcs.size() - b.arcs.size();
    };

    private static final class ParseError extends RuntimeException {
        final int code;
        final int at;

        ParseError(int code, int at) {
            this.code = code;
            this.at = at;
        }
    }

    private static final class Net {
        final List<Node> nodes = new ArrayList<>();
        final List<Road> roads = new ArrayList<>();
        int[] turns = {0, 2, 5, 20};
        int[] rates = {20, 10, 5};
        Integer depot;
        int capacity = 500;
        int fall = 0;
        final Map<Integer, Integer> snow = new HashMap<>();
        final Map<Integer, Route> plans = new HashMap<>();

        List<Integer> arcs() {
            List<Integer> arcs = new ArrayList<>();
            for (int r = 0; r < roads.size(); r++) {
                arcs.add(2 * r);
                if (!roads.get(r).oneway) {
                    arcs.add(2 * r + 1);
                }
            }
            return arcs;
        }

        Road road(int arc) {
            return roads.get(arc / 2);
        }

        int start(int arc) {
            return arc % 2 == 0 ? road(arc).from : road(arc).to;
        }

        int end(int arc) {
            return arc % 2 == 0 ? road(arc).to : road(arc).from;
        }

        int length(int arc) {
            return road(arc).length;
        }

        List<Integer> required(int c) {
            List<Integer> list = new ArrayList<>();
            for (int arc : arcs()) {
                if (road(arc).roadClass <= c) {
                    list.add(arc);
                }
            }
            return list;
        }

        int kind(int a, int b) {
            long ax = nodes.get(end(a)).x - nodes.get(start(a)).x;
            long ay = nodes.get(end(a)).y - nodes.get(start(a)).y;
            long bx = nodes.get(end(b)).x - nodes.get(start(b)).x;
            long by = nodes.get(end(b)).y - nodes.get(start(b)).y;
            if (ax * by > ay * bx) {
                return 2;
            }
            if (ax * by < ay * bx) {
                return 1;
            }
            return ax * bx + ay * by > 0 ? 0 : 3;
        }

        int salt(int arc) {
            return length(arc) * rates[road(arc).roadClass - 1] / 100;
        }

        /** The best route of at least one arc from a node, behind an arc (or -1), that ends with a wanted arc. */
        Route best(int node, int last, Set<Integer> wanted) {
            PriorityQueue<Route> queue = new PriorityQueue<>(BETTER);
            Set<Integer> seen = new HashSet<>();
            extend(queue, new Route(0, List.of()), node, last);
            while (!queue.isEmpty()) {
                Route route = queue.poll();
                if (wanted.contains(route.end())) {
                    return route;
                }
                if (seen.add(route.end())) {
                    extend(queue, route, end(route.end()), route.end());
                }
            }
            return null;
        }

        private void extend(PriorityQueue<Route> queue, Route route, int node, int last) {
            for (int arc : arcs()) {
                if (start(arc) == node) {
                    List<Integer> longer = new ArrayList<>(route.arcs);
                    longer.add(arc);
                    queue.add(new Route(route.cost + length(arc) + (last < 0 ? 0 : turns[kind(last, arc)]), longer));
                }
            }
        }

        Set<Integer> into(int node) {
            Set<Integer> set = new TreeSet<>();
            for (int arc : arcs()) {
                if (end(arc) == node) {
                    set.add(arc);
                }
            }
            return set;
        }

        Route toNode(int from, int last, int to) {
            return from == to ? new Route(0, List.of()) : best(from, last, into(to));
        }

        /** The best plan as a route of its arcs; null if there is none. */
        Route plan(int c) {
            if (!plans.containsKey(c)) {
                List<Integer> required = required(c);
                if (required.isEmpty()) {
                    plans.put(c, new Route(0, List.of()));
                } else {
                    plans.put(c, rest(-1, required, new HashMap<>(), new HashMap<>()));
                }
            }
            return plans.get(c);
        }

        private Route rest(int last, List<Integer> missing, Map<String, Route> known, Map<String, Long> ways) {
            if (missing.isEmpty()) {
                Route home = toNode(end(last), last, depot);
                return home == null ? null : new Route(home.cost, List.of());
            }
            String key = last + " " + missing;
            if (known.containsKey(key)) {
                return known.get(key);
            }
            Route best = null;
            for (int next : missing) {
                long way = ways.computeIfAbsent(last + ">" + next, k -> {
                    Route r = best(last < 0 ? depot : end(last), last, Set.of(next));
                    return r == null ? -1L : r.cost;
                });
                List<Integer> others = new ArrayList<>(missing);
                others.remove(Integer.valueOf(next));
                Route tail = way < 0 ? null : rest(next, others, known, ways);
                if (tail != null) {
                    List<Integer> order = new ArrayList<>();
                    order.add(next);
                    order.addAll(tail.arcs);
                    Route whole = new Route(way + tail.cost, order);
                    best = best == null || BETTER.compare(whole, best) < 0 ? whole : best;
                }
            }
            known.put(key, best);
            return best;
        }

        Set<Integer> reach(int node, int closed) {
            Set<Integer> seen = new LinkedHashSet<>();
            Deque<Integer> open = new ArrayDeque<>(List.of(node));
            while (!open.isEmpty()) {
                int at = open.pop();
                if (seen.add(at)) {
                    for (int arc : arcs()) {
                        if (start(arc) == at && arc / 2 != closed) {
                            open.push(end(arc));
                        }
                    }
                }
            }
            return seen;
        }

        boolean strong(int closed) {
            for (int n = 0; n < nodes.size(); n++) {
                if (reach(n, closed).size() != nodes.size()) {
                    return false;
                }
            }
            return true;
        }
    }

    private static final class Sim implements Cloneable {
        Net net = new Net();
        long time = 0;
        int place = -1;
        int last = -1;
        int salt = 500;
        int used = 0;
        int distance = 0;
        int fall = 0;
        long[] base = new long[24];
        long[] since = new long[24];
        int[] turned = new int[4];
        int[] passes = new int[24];

        Sim copy() {
            try {
                Sim copy = (Sim) clone();
                copy.base = base.clone();
                copy.since = since.clone();
                copy.turned = turned.clone();
                copy.passes = passes.clone();
                return copy;
            } catch (CloneNotSupportedException e) {
                throw new IllegalStateException(e);
            }
        }

        long depth(int arc, long at) {
            return Math.min(2000, base[arc] + Math.floorDiv(fall * Math.max(0, at - since[arc]), 3600L));
        }

        long driveTime(int arc) {
            long turn = last < 0 ? 0 : net.turns[net.kind(last, arc)];
            return turn + net.length(arc) + net.length(arc) * depth(arc, time) / 100;
        }

        long drive(int arc, boolean spread) {
            long seconds = driveTime(arc);
            if (last >= 0) {
                turned[net.kind(last, arc)]++;
            }
            time += seconds;
            base[arc] = 0;
            since[arc] = time;
            if (spread && salt >= net.salt(arc)) {
                salt -= net.salt(arc);
                used += net.salt(arc);
                since[arc] += 1800;
            }
            distance += net.length(arc);
            passes[arc]++;
            last = arc;
            place = net.end(arc);
            return seconds;
        }

        long driveTo(int node, boolean spread) {
            Route route = net.toNode(place, -1, node);
            if (route == null) {
                return -1;
            }
            long seconds = 0;
            for (int arc : route.arcs) {
                seconds += drive(arc, spread);
            }
            return seconds;
        }
    }

    private String input = "";
    private String output = "";
    private int errorCode = 0;
    private int errorAt = -1;
    private Sim sim = new Sim();
    private final List<Sim> undo = new ArrayList<>();

    private void keep() {
        undo.add(sim.copy());
        if (undo.size() > 10) {
            undo.remove(0);
        }
    }

    // Parsing

    private List<Token> tokens;
    private int next;
    private int length;
    private static final Set<String> KEYWORDS =
            Set.of("node", "road", "oneway", "turns", "depot", "salt", "spread", "snow", "fall");

    private static char sort(char c) {
        return c >= 'a' && c <= 'z' ? 'w' : c >= '0' && c <= '9' ? 'n' : c == ' ' || c == '\n' ? ' ' : 's';
    }

    private static List<Token> split(String text) {
        List<Token> list = new ArrayList<>();
        int at = 0;
        while (at < text.length()) {
            int end = at + 1;
            char sort = sort(text.charAt(at));
            while (sort != 's' && end < text.length() && sort(text.charAt(end)) == sort) {
                end++;
            }
            if (sort != ' ') {
                list.add(new Token(sort, text.substring(at, end), at));
            }
            at = end;
        }
        return list;
    }

    private Token peek() {
        return next < tokens.size() ? tokens.get(next) : new Token('e', "", length);
    }

    private String name() {
        Token t = peek();
        if (t.sort != 'w' || t.text.length() > 6 || KEYWORDS.contains(t.text)) {
            throw new ParseError(1, t.at);
        }
        return t.text;
    }

    private int number(int low, int high) {
        Token t = peek();
        if (t.sort != 'n') {
            throw new ParseError(1, t.at);
        }
        java.math.BigInteger value = new java.math.BigInteger(t.text);
        if (value.compareTo(java.math.BigInteger.valueOf(low)) < 0
                || value.compareTo(java.math.BigInteger.valueOf(high)) > 0) {
            throw new ParseError(2, t.at);
        }
        next++;
        return value.intValue();
    }

    private int[] numbers(int count) {
        int[] row = new int[count];
        for (int i = 0; i < count; i++) {
            row[i] = number(0, 99);
        }
        return row;
    }

    private int node(Net net, int forbidden) {
        String name = name();
        for (int n = 0; n < net.nodes.size(); n++) {
            if (net.nodes.get(n).name.equals(name)) {
                if (n == forbidden) {
                    throw new ParseError(3, peek().at);
                }
                next++;
                return n;
            }
        }
        throw new ParseError(4, peek().at);
    }

    private Net parse() {
        tokens = split(input);
        next = 0;
        length = input.length();
        Net net = new Net();
        Set<String> once = new HashSet<>();
        while (peek().sort != 'e') {
            Token t = peek();
            String word = t.text;
            if (!KEYWORDS.contains(word) || word.equals("oneway")) {
                throw new ParseError(1, t.at);
            }
            if (word.equals("node") && net.nodes.size() == 10 || word.equals("road") && net.roads.size() == 12) {
                throw new ParseError(5, t.at);
            }
            boolean many = word.equals("node") || word.equals("road") || word.equals("snow");
            if (!many && !once.add(word)) {
                throw new ParseError(3, t.at);
            }
            next++;
            statement(net, word);
            if (!peek().text.equals(";")) {
                throw new ParseError(1, peek().at);
            }
            next++;
        }
        if (net.depot == null && !net.nodes.isEmpty()) {
            net.depot = 0;
        }
        return net;
    }

    private void statement(Net net, String word) {
        switch (word) {
            case "node" -> nodeStatement(net);
            case "road" -> roadStatement(net);
            case "turns" -> net.turns = numbers(4);
            case "spread" -> net.rates = numbers(3);
            case "depot" -> net.depot = node(net, -1);
            case "salt" -> net.capacity = number(0, 9999);
            case "fall" -> net.fall = number(0, 99);
            default -> {
                int road = roadOf(net, name());
                if (road < 0) {
                    throw new ParseError(4, peek().at);
                }
                next++;
                net.snow.put(road, number(0, 999));
            }
        }
    }

    private void nodeStatement(Net net) {
        String name = name();
        if (nodeOf(net, name) >= 0) {
            throw new ParseError(3, peek().at);
        }
        next++;
        int x = number(0, 99);
        Token t = peek();
        int y = number(0, 99);
        for (Node n : net.nodes) {
            if (n.x == x && n.y == y) {
                throw new ParseError(3, t.at);
            }
        }
        net.nodes.add(new Node(name, x, y));
    }

    private void roadStatement(Net net) {
        String name = name();
        if (roadOf(net, name) >= 0) {
            throw new ParseError(3, peek().at);
        }
        next++;
        int from = node(net, -1);
        int to = node(net, from);
        int length = number(1, 999);
        int roadClass = number(1, 3);
        boolean oneway = peek().text.equals("oneway");
        next += oneway ? 1 : 0;
        net.roads.add(new Road(name, from, to, length, roadClass, oneway));
    }

    private static int nodeOf(Net net, String name) {
        for (int n = 0; n < net.nodes.size(); n++) {
            if (net.nodes.get(n).name.equals(name)) {
                return n;
            }
        }
        return -1;
    }

    private static int roadOf(Net net, String name) {
        for (int r = 0; r < net.roads.size(); r++) {
            if (net.roads.get(r).name.equals(name)) {
                return r;
            }
        }
        return -1;
    }

    // The face

    public int append(int a, int b, int c, int d, int e) {
        if (input.length() > 1180) {
            throw new IllegalStateException();
        }
        StringBuilder text = new StringBuilder(input);
        for (int word : new int[] {a, b, c, d, e}) {
            for (int shift = 24; shift >= 0; shift -= 8) {
                text.append((char) (word >> shift & 255));
            }
        }
        input = text.toString();
        return input.length();
    }

    public void truncate(int length) {
        argument(length >= 0 && length <= input.length());
        input = input.substring(0, length);
    }

    public int load() {
        try {
            Net net = parse();
            keep();
            sim = new Sim();
            sim.net = net;
            sim.place = net.depot == null ? -1 : net.depot;
            sim.salt = net.capacity;
            sim.fall = net.fall;
            for (int arc : net.arcs()) {
                sim.base[arc] = net.snow.getOrDefault(arc / 2, 0);
            }
            errorCode = 0;
            errorAt = -1;
            return net.roads.size();
        } catch (ParseError e) {
            errorCode = e.code;
            errorAt = e.at;
            return -4;
        } finally {
            input = "";
        }
    }

    public int errorCode() {
        return errorCode;
    }

    public int errorPosition() {
        return errorAt;
    }

    public int nodeCount() {
        return sim.net.nodes.size();
    }

    public int roadCount() {
        return sim.net.roads.size();
    }

    public int find(boolean isRoad) {
        String name = input;
        input = "";
        argument(name.matches("[a-z]{1,6}"));
        return isRoad ? roadOf(sim.net, name) : nodeOf(sim.net, name);
    }

    public int arcs() {
        return mask(sim.net.arcs());
    }

    public int arcStart(int arc) {
        arc(arc);
        return sim.net.start(arc);
    }

    public int arcEnd(int arc) {
        arc(arc);
        return sim.net.end(arc);
    }

    public int arcLength(int arc) {
        arc(arc);
        return sim.net.length(arc);
    }

    public int arcClass(int arc) {
        arc(arc);
        return sim.net.road(arc).roadClass;
    }

    public int turn(int from, int to) {
        arc(from);
        arc(to);
        argument(sim.net.end(from) == sim.net.start(to));
        return sim.net.kind(from, to);
    }

    public int turnCost(int kind) {
        kind(kind);
        return sim.net.turns[kind];
    }

    public int routeCost(int from, int to) {
        arc(from);
        arc(to);
        return from == to ? 0 : cost(sim.net.best(sim.net.end(from), from, Set.of(to)));
    }

    public int pathCost(int from, int to) {
        node(from);
        node(to);
        return cost(sim.net.toNode(from, -1, to));
    }

    public int pathArc(int from, int to, int index) {
        node(from);
        node(to);
        Route route = sim.net.toNode(from, -1, to);
        if (route == null || index < 0 || index >= route.arcs.size()) {
            throw new NoSuchElementException();
        }
        return route.arcs.get(index);
    }

    public int reachable(int node) {
        node(node);
        return mask(sim.net.reach(node, -1));
    }

    public boolean isStronglyConnected() {
        return sim.net.strong(-1);
    }

    public int imbalance(int node) {
        node(node);
        int out = 0;
        int in = 0;
        for (int arc : sim.net.arcs()) {
            out += sim.net.start(arc) == node ? 1 : 0;
            in += sim.net.end(arc) == node ? 1 : 0;
        }
        return out - in;
    }

    public int requiredArcs(int roadClass) {
        return mask(required(roadClass));
    }

    public int planCost(int roadClass) {
        return cost(plan(roadClass));
    }

    public int planArc(int roadClass, int index) {
        Route plan = plan(roadClass);
        if (plan == null || index < 0 || index >= plan.arcs.size()) {
            throw new NoSuchElementException();
        }
        return plan.arcs.get(index);
    }

    public int greedyTour(int roadClass) {
        Set<Integer> missing = new TreeSet<>(required(roadClass));
        if (missing.isEmpty()) {
            return 0;
        }
        List<Integer> tour = new ArrayList<>();
        long cost = 0;
        int place = sim.net.depot;
        int last = -1;
        while (!missing.isEmpty()) {
            Route best = null;
            for (int arc : missing) {
                Route route = sim.net.best(place, last, Set.of(arc));
                if (route != null && (best == null || route.cost < best.cost)) {
                    best = route;
                }
            }
            if (best == null) {
                return -1;
            }
            tour.addAll(best.arcs);
            missing.removeAll(best.arcs);
            cost += best.cost;
            last = best.end();
            place = sim.net.end(last);
        }
        Route home = sim.net.toNode(place, last, sim.net.depot);
        return home == null ? -1 : (int) (cost + home.cost);
    }

    public int planOverhead(int roadClass) {
        Route plan = plan(roadClass);
        if (plan == null) {
            return -1;
        }
        long rest = plan.cost;
        for (int arc : plan.arcs) {
            rest -= sim.net.length(arc);
        }
        return (int) rest;
    }

    public int time() {
        return (int) sim.time;
    }

    public int position() {
        return sim.place;
    }

    public int lastArc() {
        return sim.last;
    }

    public int saltLeft() {
        return sim.salt;
    }

    public int fall() {
        return sim.fall;
    }

    public int depth(int arc) {
        arc(arc);
        return (int) sim.depth(arc, sim.time);
    }

    public int deepestArc(int roadClass) {
        return deepestArcAfter(roadClass, 0);
    }

    public int deepArcs(int limit) {
        argument(limit >= 0 && limit <= 2000);
        List<Integer> deep = new ArrayList<>();
        for (int arc : sim.net.arcs()) {
            if (depth(arc) > limit) {
                deep.add(arc);
            }
        }
        return mask(deep);
    }

    public long totalSnow() {
        long sum = 0;
        for (int arc : sim.net.arcs()) {
            sum += (long) sim.net.length(arc) * depth(arc);
        }
        return sum;
    }

    public int secondsToDepth(int arc, int depth) {
        arc(arc);
        argument(depth >= 0 && depth <= 2000);
        if (sim.depth(arc, sim.time + 1000000) < depth) {
            return -1;
        }
        int low = 0;
        int high = 1000000;
        while (low < high) {
            int middle = (low + high) / 2;
            if (sim.depth(arc, sim.time + middle) >= depth) {
                high = middle;
            } else {
                low = middle + 1;
            }
        }
        return low;
    }

    public int driveTime(int arc) {
        arc(arc);
        state(sim.net.start(arc) == sim.place);
        return (int) sim.driveTime(arc);
    }

    public int drive(int arc, boolean spread) {
        arc(arc);
        state(sim.net.start(arc) == sim.place);
        keep();
        return (int) sim.drive(arc, spread);
    }

    public int driveTo(int node, boolean spread) {
        int seconds = pathTime(node);
        if (sim.place != node) {
            keep();
            seconds = (int) sim.driveTo(node, spread);
        }
        return seconds;
    }

    public int waitFor(int seconds) {
        argument(seconds >= 0 && seconds <= 86400);
        state(sim.time + seconds <= 1000000);
        if (seconds > 0) {
            keep();
        }
        sim.time += seconds;
        return (int) sim.time;
    }

    public int refill() {
        state(!sim.net.nodes.isEmpty() && sim.place == sim.net.depot);
        int added = sim.net.capacity - sim.salt;
        if (added > 0) {
            keep();
        }
        sim.salt += added;
        return added;
    }

    public int setFall(int rate) {
        argument(rate >= 0 && rate <= 99);
        int old = sim.fall;
        if (rate != old) {
            keep();
            for (int arc : sim.net.arcs()) {
                sim.base[arc] = sim.depth(arc, sim.time);
                sim.since[arc] = Math.max(sim.since[arc], sim.time);
            }
            sim.fall = rate;
        }
        return old;
    }

    public int saltUsed() {
        return sim.used;
    }

    public int distance() {
        return sim.distance;
    }

    public int turnsMade(int kind) {
        kind(kind);
        return sim.turned[kind];
    }

    public int passes(int arc) {
        arc(arc);
        return sim.passes[arc];
    }

    public int untouched(int roadClass) {
        List<Integer> list = required(roadClass);
        list.removeIf(arc -> sim.passes[arc] > 0);
        return mask(list);
    }

    public int planTime(int roadClass, boolean spread) {
        Route plan = plan(roadClass);
        state(!sim.net.nodes.isEmpty());
        if (plan == null) {
            return -1;
        }
        Sim copy = sim.copy();
        for (int arc : plan.arcs) {
            if (copy.driveTo(sim.net.start(arc), spread) < 0) {
                return -1;
            }
            copy.drive(arc, spread);
        }
        return copy.driveTo(sim.net.depot, spread) < 0 ? -1 : (int) (copy.time - sim.time);
    }

    public int undo() {
        state(!undo.isEmpty());
        sim = undo.remove(undo.size() - 1);
        return undo.size();
    }

    public int undoCount() {
        return undo.size();
    }

    public int writeNetwork() {
        Net net = sim.net;
        StringBuilder text = new StringBuilder();
        for (Node n : net.nodes) {
            text.append("node " + n.name + " " + n.x + " " + n.y + ";");
        }
        for (Road r : net.roads) {
            text.append("road " + r.name + " " + net.nodes.get(r.from).name + " " + net.nodes.get(r.to).name
                    + " " + r.length + " " + r.roadClass + (r.oneway ? " oneway;" : ";"));
        }
        text.append("turns " + joined(net.turns) + ";");
        if (net.depot != null) {
            text.append("depot " + net.nodes.get(net.depot).name + ";");
        }
        text.append("salt " + net.capacity + ";spread " + joined(net.rates) + ";");
        for (int r = 0; r < net.roads.size(); r++) {
            if (net.snow.getOrDefault(r, 0) != 0) {
                text.append("snow " + net.roads.get(r).name + " " + net.snow.get(r) + ";");
            }
        }
        output = text.append("fall " + sim.fall + ";").toString();
        return output.length();
    }

    private static String joined(int[] row) {
        return Arrays.toString(row).replaceAll("[^0-9 ]", "");
    }

    public int outputByte(int index) {
        if (index < 0 || index >= output.length()) {
            throw new IndexOutOfBoundsException();
        }
        return output.charAt(index);
    }

    public int nearestDeepArc(int limit) {
        int deep = deepArcs(limit);
        int nearest = -1;
        long least = Long.MAX_VALUE;
        for (int arc : sim.net.arcs()) {
            Route route = (deep >> arc & 1) == 0 ? null : sim.net.best(sim.place, sim.last, Set.of(arc));
            if (route != null && route.cost < least) {
                least = route.cost;
                nearest = arc;
            }
        }
        return nearest;
    }

    public int cycleCost(int arc) {
        arc(arc);
        Route back = sim.net.toNode(sim.net.end(arc), arc, sim.net.start(arc));
        return back == null ? -1 : (int) back.cost + sim.net.length(arc);
    }

    public int eccentricity(int node) {
        node(node);
        int greatest = 0;
        for (int to = 0; to < nodeCount(); to++) {
            int cost = pathCost(node, to);
            if (cost < 0) {
                return -1;
            }
            greatest = Math.max(greatest, cost);
        }
        return greatest;
    }

    public int centre() {
        int centre = -1;
        for (int node = 0; node < nodeCount(); node++) {
            int e = eccentricity(node);
            if (e >= 0 && (centre < 0 || e < eccentricity(centre))) {
                centre = node;
            }
        }
        return centre;
    }

    public boolean isCritical(int road) {
        if (road < 0 || road >= roadCount()) {
            throw new IndexOutOfBoundsException();
        }
        return sim.net.strong(-1) && !sim.net.strong(road);
    }

    public int saltNeeded(int roadClass) {
        int sum = 0;
        for (int arc : required(roadClass)) {
            sum += sim.net.salt(arc);
        }
        return sum;
    }

    public int planTurns(int roadClass, int kind) {
        required(roadClass);
        kind(kind);
        Route plan = plan(roadClass);
        if (plan == null) {
            return -1;
        }
        List<Integer> tour = new ArrayList<>();
        for (int arc : plan.arcs) {
            int last = tour.isEmpty() ? -1 : tour.get(tour.size() - 1);
            tour.addAll(sim.net.best(last < 0 ? sim.net.depot : sim.net.end(last), last, Set.of(arc)).arcs);
        }
        if (!tour.isEmpty()) {
            int last = tour.get(tour.size() - 1);
            tour.addAll(sim.net.toNode(sim.net.end(last), last, sim.net.depot).arcs);
        }
        int count = 0;
        for (int i = 1; i < tour.size(); i++) {
            count += sim.net.kind(tour.get(i - 1), tour.get(i)) == kind ? 1 : 0;
        }
        return count;
    }

    public int depthAfter(int arc, int seconds) {
        arc(arc);
        argument(seconds >= 0 && seconds <= 1000000);
        return (int) sim.depth(arc, sim.time + seconds);
    }

    public int secondsToFirstDepth(int roadClass, int depth) {
        int least = -1;
        List<Integer> required = required(roadClass);
        argument(depth >= 0 && depth <= 2000);
        for (int arc : required) {
            int seconds = secondsToDepth(arc, depth);
            if (seconds >= 0 && (least < 0 || seconds < least)) {
                least = seconds;
            }
        }
        return least;
    }

    public int pathTime(int node) {
        node(node);
        long seconds = sim.copy().driveTo(node, false);
        if (seconds < 0) {
            throw new NoSuchElementException();
        }
        return (int) seconds;
    }

    public int meanDepth(int roadClass) {
        List<Integer> required = required(roadClass);
        int sum = 0;
        for (int arc : required) {
            sum += depth(arc);
        }
        return required.isEmpty() ? -1 : Math.floorDiv(sum, required.size());
    }

    public int deepestArcAfter(int roadClass, int seconds) {
        int deepest = -1;
        List<Integer> required = required(roadClass);
        argument(seconds >= 0 && seconds <= 1000000);
        for (int arc : required) {
            if (deepest < 0 || depthAfter(arc, seconds) > depthAfter(deepest, seconds)) {
                deepest = arc;
            }
        }
        return deepest;
    }

    // What several of them share

    private static int mask(Iterable<Integer> set) {
        int mask = 0;
        for (int element : set) {
            mask |= 1 << element;
        }
        return mask;
    }

    private static int cost(Route route) {
        return route == null ? -1 : (int) route.cost;
    }

    private List<Integer> required(int roadClass) {
        argument(roadClass >= 1 && roadClass <= 3);
        return sim.net.required(roadClass);
    }

    private Route plan(int roadClass) {
        state(required(roadClass).size() <= 12);
        return sim.net.plan(roadClass);
    }

    private void arc(int arc) {
        if (!sim.net.arcs().contains(arc)) {
            throw new IndexOutOfBoundsException();
        }
    }

    private void node(int node) {
        if (node < 0 || node >= sim.net.nodes.size()) {
            throw new IndexOutOfBoundsException();
        }
    }

    private static void kind(int kind) {
        argument(kind >= 0 && kind <= 3);
    }

    private static void argument(boolean good) {
        if (!good) {
            throw new IllegalArgumentException();
        }
    }

    private static void state(boolean good) {
        if (!good) {
            throw new IllegalStateException();
        }
    }
}
