/** Section 8: each call that can be undone, what undo() restores and what not, and a history that is empty or full. */
public final class UndoTest {
    private interface Call {
        void on(SnowPlough p);
    }

    public static void main(String[] args) {
        eachCall();
        aFullHistory();
        theLastTen();
        whatIsNotKept();
        buffersAndErrorStay();
        loadsAreUndone();
        tablesFollow();
        emptyObject();
        Check.end("UndoTest");
    }

    /** Each restores the very state before it, the other calls that can be undone included. */
    private static void eachCall() {
        undone("load()", p -> Check.load(p, "node x 9 9;node y 8 8;road z x y 7 3;depot y;salt 3;spread 1 1 1;fall 5;"));
        undone("load() of nothing", p -> Check.load(p, ""));
        undone("load() of the same", p -> Check.load(p, Worked.BASE));
        undone("refill()", p -> {
            p.refill();
        });
        undone("drive()", p -> p.drive(0, false));
        undone("drive() with salt", p -> p.drive(0, true));
        undone("driveTo() over one arc", p -> p.driveTo(1, true));
        undone("driveTo() over two arcs", p -> p.driveTo(2, true));
        undone("waitFor(1)", p -> p.waitFor(1));
        undone("waitFor(86400)", p -> p.waitFor(86400));
        undone("setFall(0)", p -> p.setFall(0));
        undone("setFall(99)", p -> p.setFall(99));
    }

    private static void undone(String what, Call call) {
        SnowPlough once = atTheDepot();
        int before = once.undoCount();
        call.on(once);
        Check.is(what + " can be undone", before + 1, once.undoCount());
        Check.is(what + " and then not again", before, once.undo());
        Check.is(what + " and then not again", before, once.undoCount());
        Check.same(what + " is undone", Story.state(UndoTest::atTheDepot), Story.state(() -> {
            SnowPlough p = atTheDepot();
            call.on(p);
            p.undo();
            return p;
        }));
        Check.is(what + " changes something", false,
                Story.present(atTheDepot()).equals(Story.present(changed(call))));
    }

    private static SnowPlough changed(Call call) {
        SnowPlough p = atTheDepot();
        call.on(p);
        // The story tells the number of calls that can be undone: one is taken away again from both.
        p.waitFor(1);
        p.undo();
        return p;
    }

    /** At node 0 with less salt than fits, with a last arc, turns, passes, and eight calls that can be undone. */
    private static SnowPlough atTheDepot() {
        SnowPlough p = new SnowPlough();
        Check.load(p, Worked.BASE + "snow bc 50;fall 36;salt 200;");
        p.waitFor(500);
        p.drive(0, true);
        p.setFall(20);
        p.drive(2, false);
        p.drive(4, true);
        p.waitFor(77);
        p.setFall(40);
        return p;
    }

    private static void aFullHistory() {
        SnowPlough p = new SnowPlough();
        for (int i = 1; i <= 9; i++) {
            p.waitFor(i);
            Check.is("51 after " + i, i, p.undoCount());
        }
        p.setFall(3);
        Check.is("51 ten", 10, p.undoCount());
        p.waitFor(10);
        Check.is("51 still ten", 10, p.undoCount());
        p.setFall(4);
        Check.is("51 still ten", 10, p.undoCount());
        // The first two are lost: 1 and 2 seconds.
        for (int i = 9; i >= 0; i--) {
            Check.is("50 how many are left", i, p.undo());
            Check.is("51 as many", i, p.undoCount());
        }
        Check.noState("50 the eleventh", p::undo);
        Check.is("28 what was lost stays", 3, p.time());
        Check.is("32 the fall is undone", 0, p.fall());
        Check.is("51 refused undos count nothing", 0, p.undoCount());
    }

    /** The same ten places again and again, undone in part. */
    private static void theLastTen() {
        SnowPlough p = new SnowPlough();
        java.util.ArrayDeque<Integer> times = new java.util.ArrayDeque<>();
        int wait = 1;
        for (int round = 0; round < 13; round++) {
            for (int i = 0; i < round; i++) {
                times.addLast(p.time());
                p.waitFor(wait++);
                if (times.size() > 10) {
                    times.removeFirst();
                }
                Check.is("51 in round " + round, times.size(), p.undoCount());
            }
            for (int i = 0; i < round / 2 && !times.isEmpty(); i++) {
                int due = times.removeLast();
                Check.is("50 in round " + round, times.size(), p.undo());
                Check.is("28 in round " + round, due, p.time());
            }
        }
    }

    private static void whatIsNotKept() {
        kept(0, "load() with an error", p -> Check.load(p, "oops"));
        kept(1, "refill() twice: the second adds nothing", p -> {
            p.refill();
            p.refill();
        });
        kept(0, "driveTo() where it is", p -> p.driveTo(0, true));
        kept(0, "waitFor(0)", p -> p.waitFor(0));
        kept(0, "setFall() with the present rate", p -> p.setFall(40));
        kept(0, "writeNetwork()", SnowPlough::writeNetwork);
        kept(0, "append() and truncate()", p -> Check.type(p, "abc"));
        kept(0, "find()", p -> Check.find(p, true, "ab"));
        kept(0, "planTime()", p -> p.planTime(3, true));
        kept(0, "pathTime()", p -> p.pathTime(2));
        kept(1, "refill() that adds salt", SnowPlough::refill);
        kept(1, "load() without an error", SnowPlough::load);
        kept(1, "driveTo() over two arcs: one call", p -> p.driveTo(2, true));
        kept(2, "setFall() there and back", p -> {
            p.setFall(41);
            p.setFall(40);
        });
        kept(-1, "undo()", SnowPlough::undo);
        kept(-2, "undo() twice", p -> {
            p.undo();
            p.undo();
        });
    }

    private static void kept(int more, String what, Call call) {
        SnowPlough p = atTheDepot();
        int before = p.undoCount();
        call.on(p);
        Check.is("51 " + what, before + more, p.undoCount());
    }

    private static void buffersAndErrorStay() {
        SnowPlough p = Check.loaded("node a 0 0;");
        Check.load(p, "node b 7 8;node c 7 8;");
        int written = p.writeNetwork();
        Check.load(p, "fall 5;");
        Check.type(p, "fall 17");
        Check.is("50 the last load", 1, p.undo());
        Check.is("50 and the first", 0, p.undo());
        Check.is("7 no node is left", 0, p.nodeCount());
        Check.is("53 the output stays", 'n', p.outputByte(0));
        Check.is("53 to its end", ';', p.outputByte(written - 1));
        Check.noIndex("53 and no longer", () -> p.outputByte(written));
        Check.is("5 the good load's answer stays", 0, p.errorCode());
        Check.is("6 the good load's answer stays", -1, p.errorPosition());
        Check.is("2 the input stays", 27, p.append(0x3b202020, 0x20202020, 0x20202020, 0x20202020, 0x20202020));
        Check.is("4 and is read", 0, p.load());
        Check.is("32", 17, p.fall());
        SnowPlough q = Check.loaded("fall 5;");
        Check.load(q, "fall 5;fall 6;");
        q.undo();
        Check.is("5 the parse error stays", 3, q.errorCode());
        Check.is("6 the parse error stays", 7, q.errorPosition());
        q.setFall(1);
        q.undo();
        Check.is("5 it stays again", 3, q.errorCode());
    }

    private static void loadsAreUndone() {
        SnowPlough p = new SnowPlough();
        for (int i = 1; i <= 11; i++) {
            Check.is("4 load " + i, i % 3, Check.load(p, network(i)));
        }
        Check.is("51 eleven loads", 10, p.undoCount());
        for (int i = 10; i >= 1; i--) {
            Check.is("50 load " + i, i - 1, p.undo());
            Check.is("8 roads of load " + i, i % 3, p.roadCount());
            Check.is("32 fall of load " + i, i, p.fall());
            Check.is("31 salt of load " + i, 100 + i, p.saltLeft());
            Check.is("29 place of load " + i, i % 2, p.position());
            Check.is("16 turns of load " + i, 3 * i, p.turnCost(2));
        }
        Check.noState("50 the new object is lost", p::undo);
    }

    private static String network(int i) {
        StringBuilder text = new StringBuilder("node a 0 0;node b 1 0;");
        for (int r = 0; r < i % 3; r++) {
            text.append("road ").append((char) ('a' + r)).append(" a b ").append(i).append(" 1;");
        }
        return text + "fall " + i + ";salt " + (100 + i) + ";depot " + (i % 2 == 0 ? "a" : "b") + ";turns 0 0 " + 3 * i + " 0;";
    }

    /** What has been computed for one network is not answered for another one. */
    private static void tablesFollow() {
        SnowPlough p = new SnowPlough();
        Check.is("24 nothing", 0, p.planCost(1));
        String two = "node a 0 0;node b 1 0;turns 0 0 0 0;road r a b ";
        for (int length = 1; length <= 4; length++) {
            Check.load(p, two + length + " 1;");
            Check.is("24 length " + length, 2 * length, p.planCost(1));
            Check.is("18 length " + length, length, p.pathCost(0, 1));
        }
        for (int length = 3; length >= 1; length--) {
            p.undo();
            Check.is("24 length " + length + " again", 2 * length, p.planCost(1));
            Check.is("18 length " + length + " again", length, p.pathCost(0, 1));
            Check.is("17 length " + length + " again", length, p.routeCost(0, 1));
        }
        p.undo();
        Check.is("24 nothing again", 0, p.planCost(1));
        Check.load(p, two + "7 1;");
        Check.is("24 another one", 14, p.planCost(1));
        Check.is("55 another one", 14, p.cycleCost(1));
    }

    private static void emptyObject() {
        SnowPlough p = new SnowPlough();
        Check.is("51 at first", 0, p.undoCount());
        Check.noState("50 at first", p::undo);
        p.waitFor(1);
        p.setFall(99);
        Check.is("51 without nodes too", 2, p.undoCount());
        Check.is("50", 1, p.undo());
        Check.is("32", 0, p.fall());
        Check.is("50", 0, p.undo());
        Check.is("28", 0, p.time());
        Check.noState("50 no more", p::undo);
    }
}
