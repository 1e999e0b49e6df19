import java.lang.management.ManagementFactory;

/** What a run of 512 calls makes stays far below the room of one run, also of the dearest calls. */
public final class RoomTest {
    private static final com.sun.management.ThreadMXBean MEMORY =
            (com.sun.management.ThreadMXBean) ManagementFactory.getThreadMXBean();

    public static void main(String[] args) {
        StringBuilder text = new StringBuilder("fall 99;turns 1 2 3 4;");
        for (int i = 0; i < 10; i++) {
            text.append("node ").append((char) ('a' + i)).append(' ').append(i % 3).append(' ').append(i / 3).append(';');
        }
        for (int i = 0; i < 12; i++) {
            text.append("road ").append((char) ('a' + i)).append(' ').append((char) ('a' + i % 10)).append(' ')
                    .append((char) ('a' + (i + 1 + i / 10) % 10)).append(" 9 ").append(1 + i % 2).append(';');
        }
        int appends = text.length() / 20 + 1;
        run(text.toString(), 1);
        long before = MEMORY.getCurrentThreadAllocatedBytes();
        run(text.toString(), 512 - appends - 1);
        long bytes = MEMORY.getCurrentThreadAllocatedBytes() - before;
        // 7.3 million elements of at least a byte; the texts that the test itself makes count here too.
        Check.is("bytes of a run, " + bytes + ", are few", true, bytes < 1500000);
        Check.end("RoomTest");
    }

    private static void run(String text, int calls) {
        SnowPlough p = Check.loaded(text);
        for (int i = 0; i < calls; i += 10) {
            Check.is("a plan", true, p.planCost(1) > 0);
            p.driveTo(i % 10, true);
            p.planTime(1, true);
            p.nearestDeepArc(0);
            p.greedyTour(2);
            p.centre();
            p.writeNetwork();
            p.pathTime(0);
            p.planTurns(1, 0);
            p.setFall(i % 99);
        }
    }
}
