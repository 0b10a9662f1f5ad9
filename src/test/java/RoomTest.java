import java.lang.management.ManagementFactory;

/** All calls of a run live in one room: an object is small, and its dearest calls make nothing. */
public final class RoomTest {
    private static long sum;

    private static FetchRope full() {
        FetchRope x = new FetchRope();
        for (int i = 0; i < 7; i++) x.sledge(i, i, 10 * i + 5, i % 2, 1 - i % 2, 10 * i);
        return x;
    }

    private static void hill(FetchRope x, String text) {
        for (int i = 0; i < text.length(); i++) x.feed(text.charAt(i));
        sum += x.hill();
    }

    private static void dear(FetchRope x) {
        hill(x, "snow 9 (s=1|k=2&!v=3)&d=0;slush 4 h>3|l<5;need 2;rope 40;snow 1 !!!!!");
        sum += x.best(4, 0) + x.best(4, 13) + x.price(3) + x.runs(3, 0) + x.runs(3, 1) + x.can(2, 3) + x.never() + x.two(0) + x.two(1)
            + x.when(0, 1) + x.wear(0) + x.odds(0, 1, 0) + x.mean(1) + x.act(6, 2, 5) + x.image() + x.undo() + x.tape(0, 3, 60)
            + x.shift(0, 0, 0, 1, 59) + x.judge(0, 0) + x.ballast(0, 1, 0) + x.plan(0, 1) + x.book(0, 1) + x.looked();
    }

    public static void main(String[] args) {
        com.sun.management.ThreadMXBean threads = (com.sun.management.ThreadMXBean) ManagementFactory.getThreadMXBean();
        long id = Thread.currentThread().getId();
        FetchRope x = full();
        hill(x, "snow 9 (s=1|k=2&!v=3)&d=0;slush 4 h>3|l<5;need 2;rope 40;snow 7 !(s=1|(s=2&!d=0))");
        for (int i = 0; i < 50; i++) dear(x);
        long before = threads.getThreadAllocatedBytes(id);
        for (int i = 0; i < 50; i++) dear(x);
        long calls = threads.getThreadAllocatedBytes(id) - before;
        before = threads.getThreadAllocatedBytes(id);
        FetchRope y = full();
        long made = threads.getThreadAllocatedBytes(id) - before;
        System.out.println("RoomTest: 50 rounds of the dearest calls made " + calls + " bytes, an object " + made + " (" + (sum + y.count(0)) + ")");
        if (calls > 4096 || made > 40000) System.exit(1);
    }
}
