import java.lang.management.ManagementFactory;

/**
 * All calls of one run live in one room, so no call makes anything: rows are made by the constructor
 * and used again. A call that made even one object would show in what the thread has allocated.
 */
public final class RoomTest {
    private static final int ROUNDS = 200;

    private RoomTest() { }

    private static long allocated() {
        return ((com.sun.management.ThreadMXBean) ManagementFactory.getThreadMXBean()).getCurrentThreadAllocatedBytes();
    }

    private static void calls(NineYears x) {
        x.image();
        x.feed(0x31L, 1);
        x.text(0);
        x.aim(0, 10);
        x.word(2, 1, 0);
        x.live(50);
        x.stance(0, 0, 20);
        x.made(0, 1, 0);
        x.route(0, 1, 1);
        x.minds(0, 0);
        x.odds(3, 3, 0);
        x.heirs(5, 12, 0);
        x.voice(0, 3, 5);
        x.sheet(0, 16, 6);
        x.put(0, 1, 1);
        x.move(0, 0, 0, 3, 3);
        x.words(0);
        x.tell(1);
        x.check(1, 0);
        x.lose(99);
        x.restore();
    }

    public static void main(String[] args) {
        NineYears x = new NineYears();
        x.place();
        x.place();
        x.near(0, 1, 3);
        calls(x);
        allocated();
        long before = allocated();
        long idle = allocated() - before;
        before = allocated();
        for (int i = 0; i < ROUNDS; i++) {
            calls(x);
        }
        long made = allocated() - before - idle;
        System.out.println(made + " bytes made in " + ROUNDS + " rounds of calls");
        if (made >= 16L * ROUNDS) {
            System.exit(1);
        }
        before = allocated();
        new NineYears();
        made = allocated() - before - idle;
        System.out.println(made + " bytes made by a constructor");
        // 7.3 million numbers are the room of a run: of 4 bytes each, this leaves it for some 1000 objects.
        if (made > 30000) {
            System.exit(1);
        }
    }
}
