import java.lang.management.ManagementFactory;

/** The room that the dearest runs of 512 calls take, and that nothing but a document's exception comes out of any call. */
final class RoomTest {
    private static final long MOST_BYTES = 8L * 1000 * 1000;

    private RoomTest() {
    }

    private static StampHostels crowded() {
        StampHostels made = new StampHostels();
        for (int i = 0; i < 10; i++) {
            made.addHostel(30 * i, 8, 24);
        }
        for (int i = 0; i < 8; i++) {
            made.addPilgrim(i, 1000);
        }
        return made;
    }

    private static void evenings() {
        StampHostels made = crowded();
        for (int i = 0; i < 494; i++) {
            made.evening();
        }
    }

    private static void digests() {
        StampHostels made = crowded();
        for (int i = 0; i < 247; i++) {
            made.evening();
            made.digest();
        }
    }

    private static void undos() {
        StampHostels made = crowded();
        for (int i = 0; i < 200; i++) {
            made.evening();
        }
        for (int i = 0; i < 147; i++) {
            made.rebuild(i % 8);
            made.undo();
        }
    }

    private static long bytesOf(Runnable run) {
        com.sun.management.ThreadMXBean threads = (com.sun.management.ThreadMXBean) ManagementFactory.getThreadMXBean();
        long id = Thread.currentThread().getId();
        long before = threads.getThreadAllocatedBytes(id);
        run.run();
        return threads.getThreadAllocatedBytes(id) - before;
    }

    private static void room(String title, Runnable run) {
        run.run();
        long bytes = bytesOf(run);
        System.out.println(title + ": " + bytes + " bytes");
        Script.due(title + " takes less than " + MOST_BYTES + " bytes", bytes < MOST_BYTES, true);
    }

    /** Twice as many calls as the document speaks of, up to the last day, with a pass of the greatest length. */
    private static void longestRun() {
        StampHostels made = crowded();
        for (int i = 0; i < 60; i++) {
            for (char c : ("a0,".repeat(19) + "a1").toCharArray()) {
                made.append(c);
            }
            made.forge(0);
        }
        for (int i = 0; i < 999; i++) {
            made.evening();
        }
        Script.due("stamps in the longest pass", made.pilgrim(0, 5), 2199);
        Script.due("the last one of them", made.stamp(0, 2198, 1), 998);
        Script.due("false ones", made.pilgrim(0, 7), 0);
        Script.due("undo", made.undo(), 5);
        Script.due("stamps behind undo", made.pilgrim(0, 5), 2198);
        Script.due("rebuilt", made.rebuild(0), 998);
    }

    public static void main(String[] arguments) {
        room("evenings", RoomTest::evenings);
        room("digests", RoomTest::digests);
        room("undos", RoomTest::undos);
        longestRun();
        Script.end();
    }
}
