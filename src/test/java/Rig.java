/** Words of programs and page tables, and a host with one guest to try them on. */
final class Rig {
    static final int A = 0, X = 1, PC = 2, MODE = 3, BITS = 4, ROOT = 5, ASID = 6, HANDLER = 7, EPC = 8, EMODE = 9;
    static final int ECODE = 10, EVA = 11, STATE = 12, EVENTS = 13, HANDLES = 14, STEPS = 15, GUEST = 16;
    static final int FAULT_CODE = 17, FAULT_ADDRESS = 18;
    static final int RUNS = 0, HALTED = 1, STOPPED = 2;
    static final int READ = 0, WRITE = 1, FETCH = 2;
    static final int NOTHING = 1, DENIED = 2, GIVEN = 3, NOROOM = 4, DEVICE = 5, FAULTED = 6;
    static final int CONSOLE = 240 * 16, CLOCK = 241 * 16, DISK = 242 * 16, POST = 243 * 16;

    static final int HALT = 0, BACK = 1, FLUSH_ALL = 2, FLUSH_OWN = 3, FLUSH_AT_A = 4;

    static final int P = 1, W = 2, U = 4, NX = 8, ACC = 16, DTY = 32, LARGE = 64, GLOBAL = 128;

    final NestedPager host = new NestedPager();
    final int guest;
    final int cpu;

    Rig(int ram) {
        guest = host.guest(ram);
        cpu = host.vcpu(guest);
    }

    static int op(int code, int t) {
        return code * 4096 + t;
    }

    static int load(int t) {
        return op(1, t);
    }

    static int store(int t) {
        return op(2, t);
    }

    static int jump(int t) {
        return op(6, t);
    }

    static int set(int v) {
        return op(9, v & 4095);
    }

    static int trap(int t) {
        return op(13, t);
    }

    static int call(int t) {
        return op(14, t);
    }

    /** A guest's page table entry. */
    static int to(int page, int bits) {
        return page * 256 + bits;
    }

    /** Words from a multiple of 4 on, zeros up to the next. */
    void write(int address, int... words) {
        for (int i = 0; i < words.length; i += 4) {
            int[] four = new int[4];
            for (int j = 0; j < 4 && i + j < words.length; j++) {
                four[j] = words[i + j];
            }
            Check.due("poke at " + (address + i),
                host.poke(guest, address + i, four[0], four[1], four[2], four[3]), 0);
        }
    }

    void set(int what, int v) {
        host.set(cpu, what, v);
    }

    int get(int what) {
        return host.get(cpu, what);
    }

    void dueReg(String when, int what, int want) {
        Check.due(when + ": get(" + what + ")", get(what), want);
    }

    void dueExit(String when, int reason, int guestAddress, int address, int kind, int inWalk) {
        int[] want = {reason, guestAddress, address, kind, inWalk};
        for (int what = 0; what < want.length; what++) {
            Check.due(when + ": exit(" + what + ")", host.exit(cpu, what), want[what]);
        }
    }

    void duePlace(String when, int i, int page, int guestPage, int bits, int asid) {
        int[] want = {page, guestPage, bits, asid};
        for (int what = 0; what < want.length; what++) {
            Check.due(when + ": aside(" + i + ", " + what + ")", host.aside(cpu, i, what), want[what]);
        }
    }

    void dueFault(String when, int code, int address) {
        dueReg(when, FAULT_CODE, code);
        dueReg(when, FAULT_ADDRESS, address);
    }

    int access(int kind, int address, int v) {
        return host.access(cpu, kind, address, v);
    }

    void dueAccess(String when, int kind, int address, int v, int want) {
        Check.due(when + ": access(" + kind + ", " + address + ", " + v + ")", access(kind, address, v), want);
    }

    void dueRun(String when, int n, int want) {
        Check.due(when + ": run(" + n + ")", host.run(cpu, n), want);
    }
}
