import java.util.List;

/** Wrong inputs of every call: what is thrown, that IllegalArgument goes first, and that nothing changes. */
final class ArgumentTest {
    private static final int MANY = Integer.MAX_VALUE;

    private ArgumentTest() {
    }

    private interface Call {
        void on(NestedPager host, int[] v);
    }

    public static void main(String[] args) {
        // Each row: the least and the greatest value of each argument.
        tryAll("destroy", true, (h, v) -> h.destroy(v[0]), 0, 3);
        tryAll("vcpu", true, (h, v) -> h.vcpu(v[0]), 0, 3);
        tryAll("get", true, (h, v) -> h.get(v[0], v[1]), 0, 7, 0, 18);
        tryAll("access", true, (h, v) -> h.access(v[0], v[1], v[2], v[3]), 0, 7, 0, 2, 0, 4095, 0, 65535);
        tryAll("run", true, (h, v) -> h.run(v[0], v[1]), 0, 7, 1, 1000);
        tryAll("exit", true, (h, v) -> h.exit(v[0], v[1]), 0, 7, 0, 4);
        tryAll("flush", true, (h, v) -> h.flush(v[0], v[1], v[2]), 0, 7, 0, 2, 0, 4095);
        tryAll("aside", true, (h, v) -> h.aside(v[0], v[1], v[2]), 0, 7, 0, 7, 0, 3);
        tryAll("deny", true, (h, v) -> h.deny(v[0], v[1], v[2]), 0, 3, 0, 127, 0, 7);
        tryAll("swap", true, (h, v) -> h.swap(v[0], v[1]), 0, 3, 0, 127);
        tryAll("move", true, (h, v) -> h.move(v[0], v[1]), 0, 3, 0, 127);
        tryAll("target", true, (h, v) -> h.target(v[0], v[1]), 0, 3, 0, 128);
        tryAll("harvest", true, (h, v) -> h.harvest(v[0]), 0, 3);
        tryAll("entry", true, (h, v) -> h.entry(v[0], v[1]), 0, 3, 0, 127);
        tryAll("poke", true, (h, v) -> h.poke(v[0], v[1], v[2], v[3], v[4], v[5]),
            0, 3, 0, 2044, 0, 65535, 0, 65535, 0, 65535, 0, 65535);
        tryAll("peek", true, (h, v) -> h.peek(v[0], v[1]), 0, 3, 0, 2047);
        tryAll("count", true, (h, v) -> h.count(v[0], v[1]), 0, 3, 0, 11);
        tryAll("printed", true, (h, v) -> h.printed(v[0], 0), 0, 3);
        tryAll("guest", false, (h, v) -> h.guest(v[0]), 1, 128);
        tryAll("frame", false, (h, v) -> h.frame(v[0], v[1]), 0, 127, 0, 15);
        tryAll("owner", false, (h, v) -> h.owner(v[0], v[1]), 0, 127, 0, 2);
        tryAll("host", false, (h, v) -> h.host(v[0]), 0, 4);
        tryAll("set", true, (h, v) -> h.set(v[0], 0, v[1]), 0, 7, 0, 65535);
        int[] highest = {65535, 65535, 4095, 1, 3, 255, 3, 4095, 4095, 1};
        for (int what = 0; what < 10; what++) {
            int register = what;
            tryAll("set " + what, true, (h, v) -> h.set(v[0], register, v[1]),
                0, 7, what == 7 ? -1 : 0, highest[what]);
        }
        registersToSet();
        pokeAddresses();
        numbersWithoutLimits();
        Check.end();
    }

    /** Edges on a host without guests, where all but IllegalArgument is IllegalState if the call knows that. */
    private static void tryAll(String name, boolean knowsState, Call call, int... edges) {
        int n = edges.length / 2;
        int[] good = new int[n];
        for (int i = 0; i < n; i++) {
            good[i] = edges[2 * i];
        }
        for (int i = 0; i < n; i++) {
            int low = edges[2 * i];
            int high = edges[2 * i + 1];
            for (int bad : new int[] {low - 1, high + 1, -MANY - 1, MANY}) {
                refused(name, call, with(good, i, bad));
            }
            for (int edge : new int[] {low, high}) {
                int[] v = with(good, i, edge);
                NestedPager empty = new NestedPager();
                if (knowsState) {
                    Check.badState(name + " argument " + i + " = " + edge, () -> call.on(empty, v));
                } else {
                    call.on(empty, v);
                }
            }
        }
    }

    private static int[] with(int[] values, int i, int v) {
        int[] changed = values.clone();
        changed[i] = v;
        return changed;
    }

    private static void refused(String name, Call call, int[] v) {
        NestedPager empty = new NestedPager();
        String what = name + java.util.Arrays.toString(v);
        Check.badArgument(what + " on an empty host", () -> call.on(empty, v));
        NestedPager used = usedHost();
        List<Integer> before = Snapshot.of(used);
        Check.badArgument(what + " on a used host", () -> call.on(used, v));
        Check.holds(what + " changes nothing", before.equals(Snapshot.of(used)));
    }

    private static NestedPager usedHost() {
        NestedPager host = new NestedPager();
        host.guest(20);
        host.vcpu(0);
        host.poke(0, 0, 9 * 4096 + 5, 2 * 4096 + 40, 0, 0);
        host.run(0, 10);
        host.harvest(0);
        host.access(0, 1, 17, 4);
        return host;
    }

    private static void registersToSet() {
        NestedPager host = usedHost();
        for (int what : new int[] {-1, 10, 18, MANY, -MANY - 1}) {
            Check.badArgument("set(0, " + what + ", 0)", () -> host.set(0, what, 0));
        }
        Check.badArgument("IllegalArgument goes first", () -> host.set(7, 3, 2));
        Check.badState("no VCPU 7", () -> host.set(7, 3, 1));
        Check.badArgument("NONE is for HANDLER alone", () -> host.set(0, 8, -1));
        host.set(0, 7, 12);
        host.set(0, 7, NestedPager.NONE);
        Check.due("HANDLER", host.get(0, 7), -1);
    }

    private static void pokeAddresses() {
        NestedPager host = usedHost();
        for (int address : new int[] {1, 2, 3, 2045, 2046, 2047, 2048, -4}) {
            Check.badArgument("poke at " + address, () -> host.poke(0, address, 0, 0, 0, 0));
        }
        Check.due("poke(2044) of 20 pages", host.poke(0, 2044, 0, 0, 0, 0), 1);
    }

    private static void numbersWithoutLimits() {
        NestedPager host = usedHost();
        for (int k : new int[] {-1, 2, 128, MANY, -MANY - 1}) {
            Check.due("dirty(" + k + ")", host.dirty(k), -1);
            Check.due("printed(0, " + k + ")", host.printed(0, k), -1);
        }
    }
}
