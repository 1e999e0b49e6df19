/** Section 1 and promises 2, 4, 5, 6 and 9, sentence by sentence: each bound of the input and of its language. */
public final class TextBoundsTest {
    private static final String[] KEYWORDS =
            {"node", "road", "oneway", "turns", "depot", "salt", "spread", "snow", "fall"};
    private static final String TWO = "node a 0 0;node b 1 0;";
    private static final String ROAD = TWO + "road r a b 1 1;";
    private static final String[] STATEMENTS = {"node x 9 9", "road x a b 1 1", "turns 1 2 3 4", "depot a", "salt 1",
            "spread 1 2 3", "snow r 1", "fall 1"};
    private static final String[] SETTINGS = {"turns 1 2 3 4;", "depot a;", "salt 1;", "spread 1 2 3;", "fall 1;"};

    public static void main(String[] args) {
        roomOfTheInput();
        bytesOfAnAppend();
        zeroStatements();
        eachStatementEnds();
        everyByte();
        whatSeparates();
        namesOfSixLetters();
        numbersInRange();
        settingsAndDefaults();
        snowOnARoad();
        atMostOnce();
        whatMayBeRepeated();
        namesAndNumbers();
        differentNodes();
        tenNodesTwelveRoads();
        theFirstToken();
        theSmallestCode();
        whereTheErrorIs();
        aLoadReplaces();
        anErrorReplacesNothing();
        lookingUp();
        Check.end("TextBoundsTest");
    }

    private static SnowPlough good(String text) {
        SnowPlough p = new SnowPlough();
        Check.load(p, "oops");
        int roads = Check.load(p, text);
        Check.is("4 roads of " + text, text.split("road ", -1).length - 1, roads);
        Check.is("5 code of " + text, 0, p.errorCode());
        Check.is("6 position of " + text, -1, p.errorPosition());
        return p;
    }

    /** The error is at the place of the bar. */
    private static void bad(int code, String marked) {
        String text = marked.replace("|", "");
        SnowPlough p = new SnowPlough();
        Check.is("4 load of " + text, -4, Check.load(p, text));
        Check.is("5 code of " + marked, code, p.errorCode());
        Check.is("6 position of " + marked, marked.indexOf('|'), p.errorPosition());
    }

    /** 'The input buffer holds at most 1200 bytes.' */
    private static void roomOfTheInput() {
        SnowPlough p = Worked.typed(1200);
        Check.noState("2 more than 1200", () -> p.append(0, 0, 0, 0, 0));
        Check.is("4 all 1200 are read", 0, p.load());
        Check.is("4 to the last statement", 9, p.fall());
        Check.is("2 it is empty again", 20, p.append(0, 0, 0, 0, 0));
        SnowPlough q = Worked.typed(1200);
        q.truncate(1199);
        Check.is("4 the last sign is missing", -4, q.load());
        Check.is("5 the end of the text", 1, q.errorCode());
        Check.is("6 the end of the text", 1199, q.errorPosition());
        SnowPlough r = new SnowPlough();
        Check.type(r, " ".repeat(1194) + "fall 9");
        Check.is("4 a full text without an end", -4, r.load());
        Check.is("6 the end of the full text", 1200, r.errorPosition());
        Check.type(r, " ".repeat(1199) + "x");
        Check.is("4 the last byte", -4, r.load());
        Check.is("6 the last byte", 1199, r.errorPosition());
        for (int length : new int[] {1160, 1180}) {
            Check.is("2 room behind " + length, length + 20, Worked.typed(length).append(0, 0, 0, 0, 0));
        }
        for (int length : new int[] {1181, 1182, 1199, 1200}) {
            Check.noState("2 no room behind " + length, () -> Worked.typed(length).append(0, 0, 0, 0, 0));
        }
        for (int length : new int[] {0, 1, 20, 1199, 1200}) {
            SnowPlough s = Worked.typed(1200);
            s.truncate(length);
            Check.is("3 cut to " + length, length, Story.lengthOfInput(s));
        }
    }

    /** 'the four bytes of each parameter, most significant byte first': also those that make a number negative. */
    private static void bytesOfAnAppend() {
        SnowPlough p = new SnowPlough();
        Check.is("2", 20, p.append(0x66616c6c, 0x20373b0a, 0x0a0a2020, 0x73616c74, 0x20313233));
        Check.is("2", 40, p.append(0x343b7370, 0x72656164, 0x20312032, 0x20333b20, 0x20202020));
        Check.is("4", 0, p.load());
        Check.is("2 the first parameters", 7, p.fall());
        Check.is("2 across two calls", 1234, p.saltLeft());
        p.append(0x20202020, 0x202020ff, 0, 0, 0);
        p.load();
        Check.is("2 the last byte of a parameter", 7, p.errorPosition());
        p.append(0x20202020, 0x20202020, 0x20202020, 0x20202020, 0x80202020);
        p.load();
        Check.is("2 the first byte of the last parameter", 16, p.errorPosition());
    }

    private static void zeroStatements() {
        for (String text : new String[] {"", " ", "\n", " \n \n\n  "}) {
            SnowPlough p = good(text);
            Check.is("4 no nodes", 0, p.nodeCount());
            Check.is("4 no plough", -1, p.position());
            Check.is("4 it is a load", 1, p.undoCount());
        }
    }

    /** 'each statement ends with ';'': cut off behind each token, and ended too early behind each. */
    private static void eachStatementEnds() {
        for (String statement : STATEMENTS) {
            String[] tokens = statement.split(" ");
            String text = ROAD + tokens[0];
            for (int i = 1; i <= tokens.length; i++) {
                bad(1, text + "|");
                bad(1, (text + " |").replace(" |", "  \n|"));
                bad(1, text + " |#");
                if (i < tokens.length) {
                    bad(1, text + "|;");
                    text += " " + tokens[i];
                }
            }
            good(text + ";");
            bad(1, text + ";|;");
            bad(1, text + " |0;");
            bad(1, text + " |x;");
            bad(1, text + " |node y 8 8;");
        }
        bad(1, ROAD + "road x a b 1 1 oneway|");
        bad(1, ROAD + "road x a b 1 1 oneway |oneway;");
        bad(1, ROAD + "road x a b 1 1 oneway |1;");
        bad(1, ROAD + "road x a b 1 1 |onewa;");
        bad(1, ROAD + "road x a b 1 1 |oneways;");
        bad(1, ROAD + "road x a b 1 |oneway;");
        bad(1, "|;");
        bad(1, "|;node a 0 0;");
    }

    /** 'each other byte except space (32) and newline (10) is a symbol of its own': all 256, before, in and behind. */
    private static void everyByte() {
        for (char sign = 0; sign < 256; sign++) {
            boolean letter = sign >= 97 && sign <= 122;
            boolean digit = sign >= 48 && sign <= 57;
            boolean blank = sign == 32 || sign == 10;
            one(sign + "fall 7;", blank ? -1 : 0, 7);
            one("fall" + sign + "7;", letter ? 0 : digit || blank ? -1 : 4, digit ? 10 * (sign - 48) + 7 : 7);
            one("fall " + sign + "7;", digit || blank ? -1 : 5, digit ? 10 * (sign - 48) + 7 : 7);
            one("fall 7" + sign + ";", digit || blank ? -1 : sign == 59 ? 7 : 6, digit ? 70 + sign - 48 : 7);
            one("fall 7;" + sign, blank ? -1 : 7, 7);
            one("fall 7;" + sign + sign, blank ? -1 : 7, 7);
            one("fall 1" + sign + "1;", blank ? 7 : digit ? 5 : sign == 59 ? 7 : 6, digit ? 2 : 1);
            SnowPlough p = new SnowPlough();
            boolean loads = Check.load(p, "node x" + sign + " 9 9;") != -4;
            Check.is("4 in a name, byte " + (int) sign, letter || blank, loads);
            Check.is("6 in a name, byte " + (int) sign, loads ? -1 : digit ? 8 + 2 : 6, p.errorPosition());
        }
    }

    /** The code of the error is 1, but 2 for a number that is too great: then the place of fall tells the code. */
    private static void one(String text, int position, int codeOrFall) {
        SnowPlough p = new SnowPlough();
        int answer = Check.load(p, text);
        String what = text + ", bytes " + (int) text.charAt(0) + " " + (int) text.charAt(text.length() - 1);
        Check.is("4 load of " + what, position < 0 ? 0 : -4, answer);
        Check.is("6 position in " + what, position, p.errorPosition());
        if (position < 0) {
            Check.is("32 after " + what, codeOrFall, p.fall());
        } else {
            Check.is("5 code of " + what, codeOrFall == 2 ? 2 : 1, p.errorCode());
        }
    }

    /** 'Spaces and newlines only separate tokens': needed between two words or numbers alone. */
    private static void whatSeparates() {
        good("node a00 0;node b 1 0;road r a b 1 1oneway;depot a;");
        good("node\na\n0\n0\n;\n\nnode   b 1   0 ;road r a b 1 1 oneway ;");
        good("turns 0 00 000 0000;salt0000;spread1 2 3;fall0;");
    }

    /** 'A name is a word of 1 to 6 letters that is not a keyword', at each place that asks for one. */
    private static void namesOfSixLetters() {
        String six = "node abcdef 0 0;node b 1 0;road abcdef abcdef b 1 1;";
        String[] places = {six + "node |! 9 9;", six + "road |! b abcdef 1 1;", six + "road x |! b 1 1;",
                six + "road x b |! 1 1;", six + "depot |!;", six + "snow |! 1;"};
        for (int i = 0; i < places.length; i++) {
            String place = places[i];
            for (String keyword : KEYWORDS) {
                bad(1, place.replace("!", keyword));
            }
            for (String other : new String[] {"abcdefg", "aaaaaaa", "zzzzzzz", "abcdefghijklmnopqrstuvwxyz", "7", ";",
                    "_", "A", "-a"}) {
                bad(1, place.replace("!", other));
            }
            for (String fresh : new String[] {"z", "zz", "abcde", "zzzzzz", "aaaaaa", "bcdefg", "nod", "nodes", "falls"}) {
                if (i < 2) {
                    good(place.replace("|!", fresh));
                } else {
                    bad(4, place.replace("!", fresh));
                }
            }
            if (i < 2) {
                bad(3, place.replace("!", "abcdef"));
            } else {
                good(place.replace("|!", "abcdef"));
            }
        }
        SnowPlough p = good(six);
        Check.is("9 six letters", 0, Check.find(p, false, "abcdef"));
        Check.is("9 five of them", -1, Check.find(p, false, "abcde"));
    }

    private static void numbersInRange() {
        range("node x ", " 9;", 0, 99);
        range("node x 9 ", ";", 0, 99);
        range(TWO + "road r a b ", " 1;", 1, 999);
        range(TWO + "road r a b 1 ", ";", 1, 3);
        range(TWO + "road r a b 1 ", " oneway;", 1, 3);
        range("turns ", " 1 2 3;", 0, 99);
        range("turns 1 ", " 2 3;", 0, 99);
        range("turns 1 2 ", " 3;", 0, 99);
        range("turns 1 2 3 ", ";", 0, 99);
        range("salt ", ";", 0, 9999);
        range("spread ", " 1 2;", 0, 99);
        range("spread 1 ", " 2;", 0, 99);
        range("spread 1 2 ", ";", 0, 99);
        range(ROAD + "snow r ", ";", 0, 999);
        range("fall ", ";", 0, 99);
    }

    /** From the least to the most, with zeros before them; no number that is too great wraps around. */
    private static void range(String before, String behind, int least, int most) {
        String[] within = {"" + least, "" + most, "0" + least, "0000000000000000000000000000000" + most, "" + (least + 1)};
        for (String number : within) {
            SnowPlough p = good(before + number + behind);
            String value = number.replaceFirst("^0+(?=.)", "");
            String plain = before.substring(before.lastIndexOf(';') + 1) + value + behind;
            // A snow statement without snow is not written.
            boolean written = !plain.equals("snow r 0;");
            Check.is("52 it is read as " + plain, written, Check.output(p).contains(plain));
        }
        String[] outside = {"" + (most + 1), "" + 10 * (most + 1), "0" + (most + 1), "2147483647", "2147483648",
                "4294967295", "4294967296", "4294967297", "4294967299", "9223372036854775808", "18446744073709551616",
                "18446744073709551617", "100000000000000000000000000000000000000001"};
        for (String number : outside) {
            bad(2, before + "|" + number + behind);
        }
        if (least > 0) {
            bad(2, before + "|0" + behind);
            bad(2, before + "|000000000000" + behind);
        }
        for (String other : new String[] {"-1", "+1", "x", ".1", ";", "fall", "abcdefg"}) {
            bad(1, before + "|" + other + behind);
        }
        bad(1, before + "1|.0" + behind);
    }

    private static void settingsAndDefaults() {
        SnowPlough p = good(TWO + "road r a b 100 1;road s a b 100 2;road t a b 100 3;");
        Check.is("16 straight", 0, p.turnCost(0));
        Check.is("16 right", 2, p.turnCost(1));
        Check.is("16 left", 5, p.turnCost(2));
        Check.is("16 U-turn", 20, p.turnCost(3));
        Check.is("29 node 0", 0, p.position());
        Check.is("31", 500, p.saltLeft());
        Check.is("59 class 1", 40, p.saltNeeded(1));
        Check.is("59 class 2", 60, p.saltNeeded(2));
        Check.is("59 class 3", 70, p.saltNeeded(3));
        Check.is("33", 0, p.depth(0));
        Check.is("32", 0, p.fall());
        // A load has the defaults again, whatever the one before said.
        Check.load(p, TWO + "turns 9 9 9 9;depot b;salt 9;spread 9 9 9;fall 9;road r a b 100 1;snow r 9;");
        Check.load(p, TWO + "road r a b 100 1;");
        Check.is("16 again", 20, p.turnCost(3));
        Check.is("29 again", 0, p.position());
        Check.is("31 again", 500, p.saltLeft());
        Check.is("59 again", 40, p.saltNeeded(1));
        Check.is("33 again", 0, p.depth(0));
        Check.is("32 again", 0, p.fall());
        Check.is("29 the last node", 1, good(TWO + "depot b;").position());
        Check.is("29 nodes behind the depot", 1, good("node z 9 9;node y 8 8;depot y;node x 7 7;").position());
        Check.is("29 without nodes", -1, good("salt 3;fall 4;").position());
    }

    private static void snowOnARoad() {
        SnowPlough p = good(ROAD + "road s b a 1 1;snow r 5;snow s 6;snow r 7;");
        Check.is("33 the later one", 7, p.depth(0));
        Check.is("33 on both arcs", 7, p.depth(1));
        Check.is("33 the other road", 6, p.depth(2));
        Check.is("33 replaced by none", 0, good(ROAD + "snow r 999;snow r 0;").depth(0));
        Check.is("33 and again", 999, good(ROAD + "snow r 0;snow r 999;").depth(1));
        Check.is("33 on a oneway road", 8, good(TWO + "road r b a 1 1 oneway;snow r 8;").depth(0));
        bad(4, TWO + "snow |r 5;road r a b 1 1;");
        bad(4, ROAD + "snow |b 5;");
        bad(4, "snow |a 5;");
    }

    /** 'turns, depot, salt, spread and fall may occur at most once each': the first word of the second is wrong. */
    private static void atMostOnce() {
        for (int i = 0; i < SETTINGS.length; i++) {
            String rest = "";
            for (int k = 0; k < SETTINGS.length; k++) {
                rest += SETTINGS[(i + k) % SETTINGS.length];
            }
            good(TWO + rest);
            for (String second : SETTINGS) {
                bad(3, TWO + rest + "|" + second);
                bad(3, TWO + rest + "|" + second.substring(0, second.indexOf(' ')));
            }
            bad(3, TWO + SETTINGS[i] + "|" + SETTINGS[i]);
            bad(3, TWO + SETTINGS[i] + "node x 9 9;road y a x 1 1;|" + SETTINGS[i]);
        }
        // Each text counts for itself, also behind one that ended at an error.
        SnowPlough p = new SnowPlough();
        Check.load(p, "fall 5;fall 6;");
        Check.is("4 after an error", 0, Check.load(p, "fall 7;"));
        Check.is("4 after a load", 0, Check.load(p, "fall 8;"));
        Check.is("32", 8, p.fall());
    }

    private static void whatMayBeRepeated() {
        good(ROAD + "snow r 1;snow r 1;snow r 1;");
        good(ROAD + "road s a b 1 1;road t b a 1 1 oneway;");
        good("fall 1;" + ROAD + "salt 2;node c 5 5;depot c;snow r 2;road s c a 1 1;turns 1 1 1 1;spread 1 1 1;");
    }

    /** 'Nodes and roads have separate name spaces and are numbered from 0, each in the order of their statements.' */
    private static void namesAndNumbers() {
        SnowPlough p = good("node c 0 0;node a 1 0;road a c a 5 1;node b 2 0;road c b a 6 2;road b c b 7 3;");
        for (int i = 0; i < 3; i++) {
            Check.is("9 node " + i, i, Check.find(p, false, "cab".substring(i, i + 1)));
            Check.is("9 road " + i, i, Check.find(p, true, "acb".substring(i, i + 1)));
            Check.is("13 road " + i, 5 + i, p.arcLength(2 * i));
        }
        Check.is("11", 2, p.arcStart(2));
        Check.is("12", 1, p.arcEnd(2));
        bad(3, "node a 0 0;node |a 1 1;");
        bad(3, ROAD + "road |r b a 2 2;");
        bad(4, "node a 0 0;depot |r;");
        bad(4, ROAD + "depot |r;");
        bad(4, ROAD + "road x |r b 1 1;");
        bad(4, ROAD + "road x a |r 1 1;");
        bad(4, "depot |a;node a 0 0;");
        bad(4, "node a 0 0;road r a |b 1 1;node b 1 1;");
        bad(4, "node b 0 0;road r |a b 1 1;node a 1 1;");
    }

    private static void differentNodes() {
        bad(3, TWO + "road r a |a 1 1;");
        bad(3, TWO + "road r b |b 1 1;");
        good(TWO + "road r b a 1 1;");
        bad(3, "node a 0 0;node b 0 |0;");
        bad(3, "node a 99 99;node b 5 5;node c 99 |99;");
        good("node a 3 4;node b 4 3;node c 3 3;node d 4 4;");
        bad(3, "node a 3 4;node b 4 3;node c 3 3;node d 04 |03;");
    }

    private static void tenNodesTwelveRoads() {
        String nodes = "";
        for (int i = 0; i < 9; i++) {
            nodes += "node " + (char) ('a' + i) + " " + i + " 0;";
        }
        Check.is("7 nine", 9, good(nodes).nodeCount());
        nodes += "node j 9 0;";
        Check.is("7 ten", 10, good(nodes).nodeCount());
        bad(5, nodes + "|node k 10 0;");
        bad(5, nodes + "|node a 0 0;");
        bad(5, nodes + "|node");
        bad(5, nodes + "|node 5;");
        String roads = "";
        for (int i = 0; i < 11; i++) {
            roads += "road " + (char) ('a' + i) + " a b 1 1;";
        }
        Check.is("8 eleven", 11, good(nodes + roads).roadCount());
        roads += "road l i j 999 3;";
        SnowPlough p = good(nodes + roads);
        Check.is("8 twelve", 12, p.roadCount());
        Check.is("10 twenty-four", 0xffffff, p.arcs());
        Check.is("12 the last arc", 8, p.arcEnd(23));
        Check.is("9 the last road", 11, Check.find(p, true, "l"));
        Check.is("9 the last node", 9, Check.find(p, false, "j"));
        bad(5, nodes + roads + "|road m a b 1 1;");
        bad(5, nodes + roads + "|road a a b 1 1;");
        bad(5, nodes + roads + "|road");
        good(nodes + roads + "depot j;snow l 999;turns 1 2 3 4;salt 1;spread 1 2 3;fall 1;");
        Check.is("4 twelve again", 12, Check.load(p, nodes + roads));
    }

    /** 'stops at the first token that has an error' */
    private static void theFirstToken() {
        bad(2, "fall |100;node a 100 0;oops");
        bad(4, "depot |a;fall 100;");
        bad(1, "|oops;fall 100;");
        bad(2, TWO + "road r a b |0 0;");
        bad(2, "turns |100 100 100 100;");
        bad(1, "node |abcdefg 100 0;");
        bad(4, TWO + "road x |y y 0 0;");
        bad(2, "node a |100 100;");
    }

    /** 'if that token has several errors, the smallest code counts' */
    private static void theSmallestCode() {
        bad(1, "fall 5 |fall 6;");
        bad(2, "node a 0 0;node b 0 |100;");
        bad(1, "node a 0 0;node b 0 |a;");
        bad(1, ROAD + "road |2 a b 1 1;");
        String ten = "node a 0 0;node b 1 0;node c 2 0;node d 3 0;node e 4 0;node f 5 0;node g 6 0;node h 7 0;node i 8 0;";
        bad(1, ten + "node j 9 0 |node k 9 9;");
        bad(1, ten + "node j 9 |node;");
        String eleven = "";
        for (int i = 0; i < 11; i++) {
            eleven += "road " + (char) ('a' + i) + " a b 1 1;";
        }
        bad(1, TWO + eleven + "road l a b 1 1 |road m a b 1 1;");
        bad(1, TWO + eleven + "road l a |road;");
        bad(1, "depot |depot;");
        bad(3, TWO + "road r a |a 0 0;");
        bad(4, TWO + "road r |c c 0 0;");
    }

    /** 'the offset of the token's first byte; for the end of the text it is the text's length' */
    private static void whereTheErrorIs() {
        bad(1, "|xyzxyzxyz");
        bad(1, "   |xyz");
        bad(1, "\n\n\n|7777");
        bad(2, "fall     |777777;");
        bad(1, "fall|");
        bad(1, "fall   |");
        bad(1, "fall\n\n\n|");
        bad(1, "fall 7|");
        bad(1, "fall 7 \n |");
        bad(3, TWO + "road r a  \n |a 1 1;");
        bad(3, "fall 7;  |fall 7;");
        SnowPlough p = new SnowPlough();
        p.append(0x66616c6c, 0x20373b66, 0x616c6c3b, 0x3b3b3b3b, 0x3b3b3b3b);
        p.truncate(4);
        Check.is("4 what is cut off is not read", -4, p.load());
        Check.is("6 the end is where it was cut", 4, p.errorPosition());
    }

    private static void aLoadReplaces() {
        SnowPlough p = Worked.full();
        p.truncate(0);
        String text = "node x 1 1;node y 2 2;road z y x 5 2;depot y;salt 8;fall 3;";
        Check.is("4 its roads", 1, Check.load(p, text));
        SnowPlough fresh = Check.loaded(text);
        fresh.writeNetwork();
        p.writeNetwork();
        Check.same("4 all is as in a new object, but what can be undone",
                Story.present(fresh).replace(" 1 arc 0", " 10 arc 0"), Story.present(p));
        Check.is("51", 10, p.undoCount());
        Check.is("28 the time", 0, p.time());
        Check.is("33 the base times too", 1, p.depthAfter(0, 1200));
        Check.is("4 it empties the buffer", 0, Story.lengthOfInput(p));
        // Salt of the network before keeps no snow away.
        SnowPlough q = Check.loaded(ROAD + "fall 99;");
        q.waitFor(5000);
        q.drive(0, true);
        Check.load(q, ROAD + "fall 36;snow r 3;");
        Check.is("37", 100, q.secondsToDepth(0, 4));
        Check.load(q, ROAD + "fall 36;");
        Check.is("33 the snow of the text before is gone", 0, q.depth(1));
        Check.is("37", 100, q.secondsToDepth(0, 1));
    }

    private static void anErrorReplacesNothing() {
        String before = Story.state(Worked::full);
        String[] errors = {"oops", "node a 0 0;fall 100;", Worked.BASE + "road x a a 1 1;", TWO + "snow r 5;", "fall 5", ";"};
        for (String text : errors) {
            Check.same("4 after " + text, before, Story.state(() -> {
                SnowPlough p = Worked.full();
                p.truncate(0);
                Check.load(p, text);
                return p;
            }));
            SnowPlough p = Worked.full();
            p.truncate(0);
            Check.is("4 " + text, -4, Check.load(p, text));
            Check.is("4 the buffer is empty", 0, Story.lengthOfInput(p));
            Check.same("53 the output stays", Story.written(Worked.full()), Story.written(p));
        }
    }

    private static void lookingUp() {
        SnowPlough p = good("node a 0 0;node z 1 0;node zzzzzz 2 0;road aaaaaa a z 1 1;road q z a 1 1;");
        Check.is("9 the first letter", 0, Check.find(p, false, "a"));
        Check.is("9 the last letter", 1, Check.find(p, false, "z"));
        Check.is("9 six", 2, Check.find(p, false, "zzzzzz"));
        Check.is("9 five of six", -1, Check.find(p, false, "zzzzz"));
        Check.is("9 a road", 0, Check.find(p, true, "aaaaaa"));
        Check.is("9 the other name space", -1, Check.find(p, true, "a"));
        Check.is("9 the other name space", -1, Check.find(p, false, "q"));
        Check.is("9 it empties the buffer", 0, Story.lengthOfInput(p));
        for (String keyword : KEYWORDS) {
            Check.is("9 " + keyword, -1, Check.find(p, false, keyword));
            Check.is("9 " + keyword, -1, Check.find(p, true, keyword));
        }
        for (char sign = 0; sign < 256; sign++) {
            String name = "" + sign;
            if (sign >= 97 && sign <= 122) {
                Check.is("9 " + name, sign == 'a' ? 0 : sign == 'z' ? 1 : -1, Check.find(good("node a 0 0;node z 1 0;"), false, name));
            } else {
                Check.noArgument("9 byte " + (int) sign, () -> Check.find(new SnowPlough(), false, name));
                Check.noArgument("9 behind a letter", () -> Check.find(new SnowPlough(), true, "a" + name));
            }
        }
        Check.noArgument("9 seven letters", () -> Check.find(new SnowPlough(), false, "zzzzzza"));
        Check.noArgument("9 no letter", () -> Check.find(new SnowPlough(), true, ""));
        Check.noArgument("9 1200 letters", () -> Check.find(new SnowPlough(), true, "a".repeat(1200)));
        Check.is("9 without a network", -1, Check.find(new SnowPlough(), true, "abcdef"));
        Check.is("9 a name that was replaced", -1, findAfterLoad());
    }

    private static int findAfterLoad() {
        SnowPlough p = good("node a 0 0;node b 1 0;");
        Check.load(p, "node a 0 0;");
        return Check.find(p, false, "b");
    }
}
