import com.sun.management.ThreadMXBean;
import java.lang.management.ManagementFactory;

/**
 * "An object is used for at most 512 calls after it has been made": the dearest ones hold up to the last, and make
 * next to no objects.
 */
final class LimitTest {
    private static final int CALLS = 512;
    private static final int STEP = 6, MASK = 7, ROOT_PAGE = 127;
    // What sweep() and walkingSweep() call before the first run, and what dueSweep() calls behind the last.
    private static final int CALLS_BEFORE = 5, CALLS_BEFORE_WALKS = 9, CALLS_BEHIND = 138;
    // A single object in each step of the runs would be some eighty times as much.
    private static final long BYTES_LEFT = 100_000;

    private LimitTest() {
    }

    public static void main(String[] args) {
        sweepWithoutPaging();
        sweepWithWalks();
        guestsComeAndGo();
        thrownToTheLast();
        roomOfAnObject();
        roomOfTheDearestRuns();
        Check.end();
    }

    /** A program that writes X at word 15 of one page of 128 after another, so that THE HAND goes round and round. */
    private static Rig sweep(int... extra) {
        Rig rig = new Rig(128);
        rig.write(0, 15, Rig.op(3, STEP), Rig.op(5, MASK), 14, Rig.op(12, 15), Rig.jump(8), 16, 2047);
        int[] rest = new int[extra.length + 1];
        System.arraycopy(extra, 0, rest, 0, extra.length);
        rest[extra.length] = Rig.jump(0);
        rig.write(8, rest);
        return rig;
    }

    private static void dueSweep(Rig rig, int steps, int loop) {
        rig.dueReg("steps", Rig.STEPS, steps);
        Check.due("TICKS", rig.host.count(0, 8), steps);
        int rounds = steps / loop + (steps % loop >= 4 ? 1 : 0);
        rig.dueReg("X", Rig.X, rounds * 16 % 2048);
        Check.due("DEMANDS", rig.host.count(0, 5), 128);
        int swapped = rig.host.count(0, 3);
        Check.due("HERE", rig.host.count(0, 2), 128 - swapped);
        Check.due("FREE frames", rig.host.host(0), 0);
        Check.due("SWAPINS and pages SWAPPED are the RECLAIMED", rig.host.count(0, 6) + swapped, rig.host.count(0, 7));
        Check.holds("pages go and come", rig.host.count(0, 6) > 10_000);
        for (int page = 0; page < 128; page++) {
            Check.due("word 15 of page " + page, rig.host.peek(0, page * 16 + 15), page * 16);
        }
    }

    private static void sweepWithoutPaging() {
        Rig rig = sweep();
        int runs = CALLS - CALLS_BEFORE - CALLS_BEHIND;
        for (int run = 0; run < runs; run++) {
            rig.dueRun("run " + run, 1000, 1000);
        }
        dueSweep(rig, runs * 1000, 7);
    }

    /** The same behind page tables, and nothing stays in the look-aside places for long. */
    private static Rig walkingSweep() {
        Rig rig = sweep(Rig.FLUSH_ALL);
        int[] table = new int[8];
        for (int k = 0; k < 8; k++) {
            table[k] = Rig.to(16 * k, Rig.P + Rig.W + Rig.LARGE);
        }
        rig.write(ROOT_PAGE * 16, table);
        rig.set(Rig.ROOT, ROOT_PAGE);
        rig.set(Rig.BITS, 3);
        return rig;
    }

    private static void sweepWithWalks() {
        Rig rig = walkingSweep();
        int runs = CALLS - CALLS_BEFORE_WALKS - CALLS_BEHIND;
        for (int run = 0; run < runs; run++) {
            rig.dueRun("run " + run, 1000, 1000);
        }
        dueSweep(rig, runs * 1000, 8);
    }

    private static void guestsComeAndGo() {
        NestedPager host = new NestedPager();
        for (int life = 0; life < CALLS / 4 - 1; life++) {
            Check.due("guest", host.guest(128), 0);
            Check.due("vcpu", host.vcpu(0), 0);
            Check.due("access", host.access(0, 1, 2047, life), 0);
            Check.due("destroy", host.destroy(0), 3);
        }
        Check.due("FREE frames", host.host(0), 128);
    }

    private static void thrownToTheLast() {
        NestedPager host = new NestedPager();
        for (int call = 0; call < CALLS; call += 2) {
            Check.badArgument("guest(0)", () -> host.guest(0));
            Check.badState("destroy(3)", () -> host.destroy(3));
        }
    }

    private static long bytesMade() {
        return ((ThreadMXBean) ManagementFactory.getThreadMXBean()).getCurrentThreadAllocatedBytes();
    }

    private static void roomOfAnObject() {
        bytesMade();
        long before = bytesMade();
        NestedPager host = new NestedPager();
        long made = bytesMade() - before;
        Check.due("FREE frames", host.host(0), 128);
        Check.holds("an object takes " + made + " bytes", made < BYTES_LEFT);
    }

    private static void roomOfTheDearestRuns() {
        Rig rig = walkingSweep();
        rig.host.run(0, 1000);
        bytesMade();
        long before = bytesMade();
        int steps = 0;
        for (int run = 0; run < 500; run++) {
            steps += rig.host.run(0, 1000);
        }
        long made = bytesMade() - before;
        Check.due("steps", steps, 500_000);
        Check.holds("500 runs made " + made + " bytes", made < BYTES_LEFT);
    }
}
