/** Objects in the middle of their work, made the same way each time. */
final class Worked {
    static final String BASE = "node a 0 0;node b 10 0;node c 10 10;"
            + "road ab a b 100 1;road bc b c 200 2;road ca c a 300 3 oneway;";

    private Worked() {
    }

    /** Three nodes, arcs 0 to 4, the plough at node 1 behind arc 3, an error, an output, 11 bytes of input, 10 undos. */
    static SnowPlough full() {
        SnowPlough p = Check.loaded("node z 5 5;");
        work(p);
        p.setFall(7);
        p.waitFor(100);
        p.setFall(36);
        p.waitFor(30);
        p.drive(2, true);
        p.drive(3, true);
        leaveTraces(p);
        return p;
    }

    /** The same, but with eight calls that can be undone: two more leave none out. */
    static SnowPlough withRoom() {
        SnowPlough p = new SnowPlough();
        work(p);
        p.setFall(37);
        leaveTraces(p);
        return p;
    }

    private static void work(SnowPlough p) {
        Check.load(p, BASE + "snow bc 50;snow ca 7;fall 36;salt 200;turns 1 3 6 21;spread 19 9 4;");
        p.waitFor(500);
        p.drive(0, true);
        p.drive(1, true);
        p.refill();
        p.driveTo(2, false);
        p.drive(3, true);
    }

    private static void leaveTraces(SnowPlough p) {
        Check.load(p, "node a 0 0;oops");
        p.writeNetwork();
        Check.type(p, "node q 1 1;");
    }

    /** A network without a single route that leads back: arc 0 from a to b, and c apart; the plough at b. */
    static SnowPlough lost() {
        SnowPlough p = Check.loaded("node a 0 0;node b 1 0;node c 2 0;road x a b 5 1 oneway;");
        p.drive(0, true);
        return p;
    }

    /** Twelve arcs of class 1, a thirteenth of class 2, two more of class 3. */
    static SnowPlough many() {
        StringBuilder text = new StringBuilder("node a 0 0;node b 1 0;turns 0 0 0 0;");
        for (int i = 0; i < 6; i++) {
            text.append("road ").append((char) ('a' + i)).append(" a b ").append(i + 1).append(" 1;");
        }
        return Check.loaded(text + "road m a b 1 2 oneway;road n a b 1 3;");
    }

    /** The time is as late as waiting may make it. */
    static SnowPlough late() {
        SnowPlough p = Check.loaded(BASE);
        for (int i = 0; i < 11; i++) {
            p.waitFor(86400);
        }
        p.waitFor(1000000 - 11 * 86400);
        return p;
    }

    /** So many bytes of input, the last ones a statement. */
    static SnowPlough typed(int length) {
        SnowPlough p = new SnowPlough();
        Check.type(p, " ".repeat(length - 7) + "fall 9;");
        return p;
    }
}
