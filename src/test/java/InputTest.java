/** Promises 1 to 9: a new object, the input buffer, the parser and names. */
public final class InputTest {
    private static final String THREE = "node a 0 0;node b 10 0;node c 10 10;";
    private static final String TWO = "node a 0 0;node b 1 0;";

    public static void main(String[] args) {
        promise1();
        promise2();
        promise3();
        promise4();
        promises5And6();
        errorsOfNodesAndRoads();
        errorsOfSettings();
        tokens();
        limits();
        promises7And8();
        promise9();
        examples();
        Check.end("InputTest");
    }

    private static void promise1() {
        SnowPlough p = new SnowPlough();
        Check.is("1 nodes", 0, p.nodeCount());
        Check.is("1 roads", 0, p.roadCount());
        Check.is("1 arcs", 0, p.arcs());
        Check.is("1 position", -1, p.position());
        Check.is("1 last arc", -1, p.lastArc());
        Check.is("1 salt", 500, p.saltLeft());
        Check.is("1 fall", 0, p.fall());
        Check.is("1 time", 0, p.time());
        Check.is("1 undo", 0, p.undoCount());
        Check.is("1 straight", 0, p.turnCost(0));
        Check.is("1 right", 2, p.turnCost(1));
        Check.is("1 left", 5, p.turnCost(2));
        Check.is("1 U-turn", 20, p.turnCost(3));
        Check.noArgument("1 the input is empty", () -> {
            p.truncate(1);
            return 0;
        });
        Check.noIndex("1 the output is empty", () -> p.outputByte(0));
        Check.same("1 output", "turns 0 2 5 20;salt 500;spread 20 10 5;fall 0;", Check.output(p));
    }

    private static void promise2() {
        SnowPlough p = new SnowPlough();
        Check.is("2 length", 20, p.append(0x6e6f6465, 0x20612031, 0x20323b20, 0x20202020, 0x2020200a));
        Check.is("2 roads", 0, p.load());
        Check.same("2 bytes in order", "node a 1 2;", Check.output(p).substring(0, 11));
        for (int i = 1; i <= 60; i++) {
            Check.is("2 length", 20 * i, p.append(-1, 0, 0x20202020, Integer.MIN_VALUE, Integer.MAX_VALUE));
        }
        Check.noState("2 full", () -> p.append(0, 0, 0, 0, 0));
        p.truncate(1181);
        Check.noState("2 too little room", () -> p.append(0, 0, 0, 0, 0));
        p.truncate(1180);
        Check.is("2 just enough room", 1200, p.append(0, 0, 0, 0, 0));
    }

    private static void promise3() {
        SnowPlough p = new SnowPlough();
        Check.type(p, "abcdef");
        wrongLength(p, 7);
        wrongLength(p, -1);
        wrongLength(p, Integer.MIN_VALUE);
        wrongLength(p, Integer.MAX_VALUE);
        p.truncate(6);
        p.truncate(3);
        wrongLength(p, 4);
        Check.type(p, "x");
        p.truncate(4);
        wrongLength(p, 5);
        p.truncate(0);
        p.truncate(0);
        wrongLength(p, 1);
    }

    private static void wrongLength(SnowPlough p, int length) {
        Check.noArgument("3 truncate " + length, () -> {
            p.truncate(length);
            return 0;
        });
    }

    private static void promise4() {
        SnowPlough p = new SnowPlough();
        Check.is("4 nothing", 0, p.load());
        Check.is("4 it can be undone", 1, p.undoCount());
        Check.is("4 one road", 1, Check.load(p, TWO + "road r a b 5 1;fall 36;salt 7;"));
        Check.is("4 time passes", 1000, p.waitFor(1000));
        p.drive(0, true);
        Check.is("4 error", -4, Check.load(p, "node c 1 1;road"));
        Check.is("4 an error leaves the network", 1, p.roadCount());
        Check.is("4 an error leaves the plough", 1, p.position());
        Check.is("4 an error leaves the time", 1005, p.time());
        Check.is("4 an error cannot be undone", 4, p.undoCount());
        Check.is("4 an error empties the buffer", 20, p.append(0x20202020, 0x20202020, 0x20202020, 0x20202020, 0));
        p.truncate(0);
        Check.is("4 a new text", 0, Check.load(p, "node z 5 5;"));
        Check.is("4 replaced nodes", 1, p.nodeCount());
        Check.is("4 replaced roads", 0, p.arcs());
        Check.is("4 replaced time", 0, p.time());
        Check.is("4 replaced fall", 0, p.fall());
        Check.is("4 replaced salt", 500, p.saltLeft());
        Check.is("4 replaced position", 0, p.position());
        Check.is("4 replaced last arc", -1, p.lastArc());
        Check.is("4 replaced distance", 0, p.distance());
        Check.is("4 replaced use of salt", 0, p.saltUsed());
    }

    private static void promises5And6() {
        SnowPlough p = new SnowPlough();
        Check.is("5 without a load", 0, p.errorCode());
        Check.is("6 without a load", -1, p.errorPosition());
        error(p, "xyz", 1, 0);
        Check.load(p, "");
        Check.is("5 after a good load", 0, p.errorCode());
        Check.is("6 after a good load", -1, p.errorPosition());
        error(p, "node a 100 0;", 2, 7);
        p.undo();
        Check.is("5 undo leaves it", 2, p.errorCode());
        Check.is("6 undo leaves it", 7, p.errorPosition());
    }

    private static void error(SnowPlough p, String text, int code, int position) {
        Check.is("load of " + text, -4, Check.load(p, text));
        Check.is("5 code of " + text, code, p.errorCode());
        Check.is("6 position of " + text, position, p.errorPosition());
    }

    private static void error(String text, int code, int position) {
        error(new SnowPlough(), text, code, position);
    }

    /** The error is at the place of the bar. */
    private static void errorAt(int code, String marked) {
        error(marked.replace("|", ""), code, marked.indexOf('|'));
    }

    private static void errorsOfNodesAndRoads() {
        errorAt(1, "|oneway;");
        errorAt(1, "|;");
        errorAt(1, "|5;");
        errorAt(1, "node |5 0 0;");
        errorAt(1, "node |road 0 0;");
        errorAt(1, "node |oneway 0 0;");
        errorAt(1, "node |abcdefg 0 0;");
        errorAt(1, "node|");
        errorAt(1, "node  \n|");
        errorAt(1, "node a |;");
        errorAt(1, "node a 0 |b;");
        errorAt(1, "node a 0 0|");
        errorAt(1, "node a 0 0 |0;");
        errorAt(2, "node a |100 0;");
        errorAt(2, "node a 0 |100;");
        errorAt(2, "node a 0 |4294967296;");
        errorAt(3, "node a 0 0;node |a 1 1;");
        errorAt(3, "node a 7 8;node b 7 |8;");
        errorAt(2, "node a 7 8;node b 7 |108;");
        errorAt(1, "node a 7 8;node b |-7 8;");
        errorAt(1, TWO + "road |7 a b 1 1;");
        errorAt(1, TWO + "road |node a b 1 1;");
        errorAt(1, TWO + "road |rrrrrrr a b 1 1;");
        errorAt(3, TWO + "road r a b 1 1;road |r b a 1 1;");
        errorAt(4, TWO + "road r |c b 1 1;");
        errorAt(1, TWO + "road r |snow b 1 1;");
        errorAt(4, TWO + "road r a |c 1 1;");
        errorAt(3, TWO + "road r a |a 1 1;");
        errorAt(1, TWO + "road r a |1 1;");
        errorAt(2, TWO + "road r a b |0 1;");
        errorAt(2, TWO + "road r a b |1000 1;");
        errorAt(1, TWO + "road r a b |x 1;");
        errorAt(2, TWO + "road r a b 1 |0;");
        errorAt(2, TWO + "road r a b 1 |4;");
        errorAt(1, TWO + "road r a b 1|;");
        errorAt(1, TWO + "road r a b 1 1 |on;");
        errorAt(1, TWO + "road r a b 1 1 oneway |oneway;");
        errorAt(1, TWO + "road r a b 1 1 oneway|");
        Check.loaded(TWO + "road a a b 999 3 oneway;road b a b 1 1;");
    }

    private static void errorsOfSettings() {
        errorAt(1, "turns 1 2 3|;");
        errorAt(1, "turns 1 2 3 4 |5;");
        errorAt(2, "turns 1 2 3 |100;");
        errorAt(3, "turns 1 2 3 4;|turns 1 2 3 4;");
        errorAt(4, "depot |a;node a 0 0;");
        errorAt(1, TWO + "depot |0;");
        errorAt(1, TWO + "depot |depot;");
        errorAt(1, TWO + "depot |abcdefg;");
        errorAt(3, TWO + "depot a;|depot b;");
        errorAt(2, "salt |10000;");
        errorAt(3, "salt 9999;|salt;");
        errorAt(2, "spread 0 |100 0;");
        errorAt(1, "spread 0 99|;");
        errorAt(3, "spread 0 1 2;|spread 0 1 2;");
        errorAt(2, "fall |100;");
        errorAt(3, "fall 99;|fall 99;");
        errorAt(4, "snow |r 5;");
        errorAt(1, "snow |5 5;");
        errorAt(4, TWO + "road r a b 1 1;snow |a 5;");
        errorAt(2, TWO + "road r a b 1 1;snow r |1000;");
        errorAt(1, TWO + "road r a b 1 1;snow r|;");
        errorAt(4, TWO + "snow |r 5;road r a b 1 1;");
        SnowPlough p = Check.loaded(TWO + "road r a b 1 1;snow r 5;snow r 999;depot b;fall 99;salt 0;");
        Check.is("4 the later snow counts", 999, p.depth(0));
        Check.is("4 the depot", 1, p.position());
        Check.is("4 the fall", 99, p.fall());
        Check.is("4 the salt", 0, p.saltLeft());
    }

    private static void tokens() {
        Check.loaded("\n node\na\n007 8 ;\n");
        Check.loaded("node a 0 0;node b0 1;");
        Check.loaded("node abcdef 00000000000000000001 0;");
        errorAt(1, "node |A 0 0;");
        errorAt(1, "node |\tb 0 0;");
        errorAt(1, "node a|\u00e1 0 0;");
        errorAt(1, "node a 0|\u0000 0;");
        errorAt(1, "|\u00ffnode a 0 0;");
        errorAt(1, "node a 0 0|:");
        errorAt(1, "node a 0 0;|nodes b 0 1;");
        errorAt(1, "|nod");
        errorAt(1, "node a 0|.5;");
    }

    private static void limits() {
        StringBuilder nodes = new StringBuilder();
        for (int i = 0; i < 10; i++) {
            nodes.append("node ").append((char) ('a' + i)).append(' ').append(i).append(" 0;");
        }
        Check.is("4 ten nodes", 0, Check.load(new SnowPlough(), nodes.toString()));
        errorAt(5, nodes + "|node k 1 1;");
        errorAt(5, nodes + "|node");
        StringBuilder roads = new StringBuilder(TWO);
        for (int i = 0; i < 12; i++) {
            roads.append("road ").append((char) ('a' + i)).append(" a b 1 1;");
        }
        Check.is("4 twelve roads", 12, Check.load(new SnowPlough(), roads.toString()));
        errorAt(5, roads + "|road m a b 1 1;");
        Check.is("10 24 arcs", 0xffffff, Check.loaded(roads.toString()).arcs());
    }

    private static void promises7And8() {
        SnowPlough p = Check.loaded(THREE + "road x a b 1 1;road y a b 1 1 oneway;");
        Check.is("7", 3, p.nodeCount());
        Check.is("8", 2, p.roadCount());
        p.undo();
        Check.is("7 after undo", 0, p.nodeCount());
        Check.is("8 after undo", 0, p.roadCount());
    }

    private static void promise9() {
        SnowPlough p = Check.loaded(THREE + "road b a b 1 1;road zzzzzz a b 1 1;");
        Check.is("9 node", 1, Check.find(p, false, "b"));
        Check.is("9 road", 0, Check.find(p, true, "b"));
        Check.is("9 long road", 1, Check.find(p, true, "zzzzzz"));
        Check.is("9 no such node", -1, Check.find(p, false, "zzzzzz"));
        Check.is("9 a keyword names nothing", -1, Check.find(p, false, "node"));
        Check.is("9 a longer name", -1, Check.find(p, false, "bb"));
        for (String wrong : new String[] {"", "bbbbbbb", "B", "b ", " b", "b1", "b\n", "\u00e9"}) {
            Check.noArgument("9 find " + wrong, () -> Check.find(p, false, wrong));
            Check.is("9 the buffer is empty then", 2, Check.find(p, false, "c"));
        }
        Check.noArgument("9 an answer empties the buffer", () -> p.find(true));
    }

    private static void examples() {
        SnowPlough p = new SnowPlough();
        p.append(1852793957, 543236144, 540031854, 1868850464, 1646278944);
        p.append(809202287, 1633951858, 543236194, 540094512, 540097382);
        Check.is("example 1", 60, p.append(1634495520, 859192096, 538976288, 538976288, 538976288));
        p.truncate(47);
        Check.is("example 1 load", 1, p.load());
        Check.is("example 1 planCost", 220, p.planCost(1));
        Check.is("example 1 waitFor", 1000, p.waitFor(1000));
        Check.is("example 1 driveTime", 110, p.driveTime(0));
        Check.is("example 1 drive", 110, p.drive(0, true));
        Check.is("example 1 turn", 3, p.turn(0, 1));
        Check.is("example 1 driveTo", 131, p.driveTo(0, false));
        SnowPlough q = new SnowPlough();
        q.append(1852793957, 543236144, 540031854, 1868850464, 1646276640);
        q.append(809181216, 538976288, 538976288, 538976288, 538976288);
        q.truncate(22);
        Check.is("example 2 load", -4, q.load());
        Check.is("example 2 errorCode", 3, q.errorCode());
        Check.is("example 2 errorPosition", 20, q.errorPosition());
        Check.noIndex("example 2 arcStart", () -> q.arcStart(0));
    }
}
