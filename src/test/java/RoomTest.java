import com.sun.management.ThreadMXBean;
import java.lang.management.ManagementFactory;

/** All calls of a run live in one room: a desk is small, and its calls make nothing. */
public final class RoomTest {
    private static final ThreadMXBean THREADS = (ThreadMXBean) ManagementFactory.getThreadMXBean();
    private static long sink = 0;

    private static long bytes() {
        return THREADS.getThreadAllocatedBytes(Thread.currentThread().getId());
    }

    /** Calls of each sort; far fewer than 512. */
    private static void use(ChartDesk x) {
        for (int score = -20; score <= 20; score++) {
            x.lots(0, score, 99);
            x.lots(1, score, 50 + score);
        }
        int[][] charts = {{0, -19, 19, 0, 0, 0}, {1, -20, 20, 5, 4, 4}, {2, 1, 20, 0, 0, 0}, {3, 5, 4, 0, 0, 0},
            {4, 1, 3, 0, 0, 0}, {5, 3, 8, 3, 0, 0}};
        x.sheet(0, 40);
        x.put(0, 3, 7);
        x.image(0);
        for (int c = 0; c < 6; c++) {
            int[] k = charts[c];
            sink += x.chart(c, k[0], k[1], k[2], k[3], k[4], k[5]);
            sink += x.turn(c, 3) + x.run(c, 0, 0, 40) + x.draw(c, 0, 7, 200) + x.step(c, 0, 1) + x.log(c, 0) + x.of(c, 2);
            sink += x.reached(c, 0, 0) + x.mean(c, 0, 0) + x.by(c, 0, 0, 40) + x.left(c, 0, 40, 0) + x.found(c, 0, 40, 1);
            sink += x.join(c, 0, 0) + x.ahead(c, 0, 1, 0) + x.alike(c, 0, 0, 0) + x.kinds(c, 0) + x.back(c, 0, 1);
            sink += x.order() + x.times(1000000) + x.length(0) + x.bits(1, 3) + x.anew(c);
        }
        sink += x.best(0, 0, 1, 100) + x.whole(0) + x.lot(0, 0) + (x.add(0, 1, 2) ? 1 : 0) + (x.again(0) ? 1 : 0);
    }

    public static void main(String[] arguments) {
        bytes();
        use(new ChartDesk());
        long start = bytes();
        ChartDesk x = new ChartDesk();
        long made = bytes() - start;
        start = bytes();
        use(x);
        long used = bytes() - start;
        System.out.println("a desk takes " + made + " bytes, its calls take " + used + " (" + sink + ")");
        // The machine's own counting may take a little; a single call that made its rows anew would take far more.
        if (made > 200000 || used > 2000) {
            System.out.println("that is too much");
            System.exit(1);
        }
    }
}
