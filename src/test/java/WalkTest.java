/** Accesses with PAGING: walks, faults, exits, look-aside places, flushes (promises 5 to 7, 9 to 11). */
final class WalkTest {
    private static final int F = NestedPager.FAULT;
    private static final int E = NestedPager.EXIT;

    private WalkTest() {
    }

    public static void main(String[] args) {
        withoutPaging();
        notPresent();
        largePages();
        largeOutOfPlace();
        largeInLeafCountsForNothing();
        rightsOfBothEntries();
        faultCodes();
        marksOnEntries();
        exitsInWalks();
        exitsOfMarking();
        devicesInWalks();
        placesAreTold();
        placesGoRound();
        placesBindUntilFlushed();
        placesThatWillNotDo();
        leastPlaceCounts();
        asidsAndGlobals();
        flushes();
        placeStaysWithExit();
        selfMap();
        Check.end();
    }

    /** Root in page 1, its entries 0 and 1 lead to tables in pages 2 and 3; PAGING is on. */
    private static Rig paged(int... leaves) {
        Rig rig = new Rig(64);
        rig.write(16, Rig.to(2, 7), Rig.to(3, 7));
        rig.write(32, leaves);
        rig.set(Rig.ROOT, 1);
        rig.set(Rig.BITS, 1);
        return rig;
    }

    private static void withoutPaging() {
        Rig rig = new Rig(10);
        rig.set(Rig.MODE, 1);
        rig.set(Rig.BITS, 2);
        rig.dueAccess("write", Rig.WRITE, 9 * 16 + 15, 65535, 0);
        rig.dueAccess("read", Rig.READ, 9 * 16 + 15, 0, 65535);
        rig.dueAccess("fetch", Rig.FETCH, 9 * 16 + 15, 0, 65535);
        Check.due("no place is told", rig.host.aside(rig.cpu, 0, 0), -1);
        rig.dueAccess("behind RAM", Rig.FETCH, 160, 0, E);
        rig.dueExit("behind RAM", Rig.NOTHING, 160, 160, 2, 0);
        rig.dueAccess("between RAM and devices", Rig.WRITE, 239 * 16 + 1, 0, E);
        rig.dueExit("between", Rig.NOTHING, 239 * 16 + 1, 239 * 16 + 1, 1, 0);
        rig.dueAccess("behind devices", Rig.READ, 244 * 16, 0, E);
        rig.dueAccess("the last address", Rig.READ, 4095, 0, E);
        rig.dueExit("the last", Rig.NOTHING, 4095, 4095, 0, 0);
        rig.dueAccess("fetch from a device", Rig.FETCH, 243 * 16 + 4, 0, E);
        rig.dueExit("a device", Rig.DEVICE, 243 * 16 + 4, 243 * 16 + 4, 2, 0);
        rig.dueReg("it is not STOPPED", Rig.STATE, Rig.RUNS);
        rig.dueFault("no FAULT yet", 0, 0);
        Check.due("each is a TICK", rig.host.count(0, 8), 8);
    }

    private static void notPresent() {
        Rig rig = paged(Rig.to(8, 6), Rig.to(9, 7));
        rig.dueAccess("the LEAF", Rig.READ, 5, 0, F);
        rig.dueFault("the LEAF", 0, 5);
        rig.dueAccess("the first", Rig.WRITE, 2 * 256 + 7, 0, F);
        rig.dueFault("the first", 2, 519);
        rig.set(Rig.MODE, 1);
        rig.dueAccess("a fetch", Rig.FETCH, 15 * 256, 0, F);
        rig.dueFault("a fetch", 20, 3840);
        rig.dueExit("no EXIT", 0, 0, 0, 0, 0);
        Check.due("no marks", rig.host.peek(0, 16), Rig.to(2, 7));
        Check.due("but the host's", rig.host.entry(0, 1) & 8, 8);
        Check.due("no place", rig.host.aside(0, 0, 0), -1);
        rig.dueReg("no HANDLER is asked", Rig.HANDLES, 0);
    }

    private static void largePages() {
        Rig rig = new Rig(64);
        rig.write(16, 0, 0, 0, Rig.to(32, 7 | Rig.LARGE));
        rig.set(Rig.ROOT, 1);
        rig.set(Rig.BITS, 1);
        rig.set(Rig.MODE, 1);
        rig.dueAccess("a write", Rig.WRITE, 3 * 256 + 5 * 16 + 2, 41, 0);
        Check.due("the word", rig.host.peek(0, (32 + 5) * 16 + 2), 41);
        Check.due("the LEAF", rig.host.peek(0, 19), Rig.to(32, 7 | Rig.LARGE | Rig.ACC | Rig.DTY));
        rig.duePlace("LARGE", 0, 48, 32, 1 + 2 + 8 + 32, 0);
        rig.dueAccess("by the place", Rig.WRITE, 3 * 256 + 15 * 16, 42, 0);
        Check.due("the word", rig.host.peek(0, 47 * 16), 42);
        Check.due("no other place", rig.host.aside(0, 1, 0), -1);
        rig.write(16, 0, 0, 0, Rig.to(240, 7 | Rig.LARGE));
        rig.host.flush(0, 0, 0);
        rig.dueAccess("to a device", Rig.WRITE, 3 * 256, 65, 0);
        Check.due("printed", rig.host.printed(0, 0), 65);
        rig.dueAccess("behind the devices", Rig.READ, 3 * 256 + 4 * 16 + 1, 0, E);
        rig.dueExit("behind", Rig.NOTHING, 244 * 16 + 1, 3 * 256 + 65, 0, 0);
        for (int bits : new int[] {Rig.P | Rig.W, Rig.P | Rig.U}) {
            rig.write(16, 0, 0, 0, Rig.to(32, bits | Rig.LARGE));
            rig.host.flush(0, 0, 0);
            rig.dueAccess("not let", Rig.WRITE, 3 * 256, 1, F);
            rig.dueFault("not let", 7, 768);
        }
        rig.write(16, 0, 0, 0, Rig.to(32, 7 | Rig.NX | Rig.LARGE));
        rig.dueAccess("not to be executed", Rig.FETCH, 3 * 256, 1, F);
        rig.dueFault("not to be executed", 21, 768);
    }

    private static void largeOutOfPlace() {
        Rig rig = new Rig(64);
        rig.write(16, Rig.to(17, Rig.P | Rig.LARGE), Rig.to(31, Rig.LARGE));
        rig.set(Rig.ROOT, 1);
        rig.set(Rig.BITS, 1);
        rig.dueAccess("read", Rig.READ, 3, 0, F);
        rig.dueFault("read", 9, 3);
        rig.set(Rig.MODE, 1);
        rig.dueAccess("write, goes before what is let", Rig.WRITE, 4, 0, F);
        rig.dueFault("write", 15, 4);
        rig.dueAccess("fetch", Rig.FETCH, 5, 0, F);
        rig.dueFault("fetch", 29, 5);
        rig.dueAccess("not PRESENT goes first", Rig.READ, 256, 0, F);
        rig.dueFault("not PRESENT", 4, 256);
        Check.due("no marks", rig.host.peek(0, 16), Rig.to(17, Rig.P | Rig.LARGE));
    }

    private static void largeInLeafCountsForNothing() {
        Rig rig = paged(Rig.to(9, 7 | Rig.LARGE));
        rig.dueAccess("write", Rig.WRITE, 3, 12, 0);
        Check.due("the word", rig.host.peek(0, 9 * 16 + 3), 12);
        rig.duePlace("no LARGE", 0, 0, 9, 1 + 2 + 8, 0);
        Check.due("the LEAF", rig.host.peek(0, 32), Rig.to(9, 7 | Rig.LARGE | Rig.ACC | Rig.DTY));
    }

    /** Every two entries, mode, kind and WP: let or not. */
    private static void rightsOfBothEntries() {
        for (int first = 0; first < 8; first++) {
            Rig rig = new Rig(16);
            rig.set(Rig.ROOT, 1);
            for (int leaf = 0; leaf < 8; leaf++) {
                for (int how = 0; how < 4; how++) {
                    rig.set(Rig.BITS, 1 + how % 2 * 2);
                    rig.set(Rig.MODE, how / 2);
                    for (int kind = 0; kind < 3; kind++) {
                        rig.host.flush(0, 0, 0);
                        rig.host.poke(0, 16, Rig.to(2, 1 + first * 2), 0, 0, 0);
                        rig.host.poke(0, 32, Rig.to(3, 1 + leaf * 2), 0, 0, 0);
                        int want = isLet(first & leaf, first | leaf, how, kind) ? 0 : F;
                        rig.dueAccess("first " + first + " leaf " + leaf + " how " + how, kind, 0, 0, want);
                    }
                }
            }
        }
    }

    private static boolean isLet(int both, int either, int how, int kind) {
        boolean user = how / 2 == 1;
        boolean let = !user || (both & 2) != 0;
        if (kind == Rig.WRITE) {
            let &= (both & 1) != 0 || how == 0;
        }
        if (kind == Rig.FETCH) {
            let &= (either & 4) == 0;
        }
        return let;
    }

    private static void faultCodes() {
        Rig rig = paged(Rig.to(8, Rig.P | Rig.NX), Rig.to(8, Rig.P | Rig.U));
        rig.dueAccess("supervisor's fetch", Rig.FETCH, 0, 0, F);
        rig.dueFault("supervisor's fetch", 17, 0);
        rig.set(Rig.BITS, 3);
        rig.dueAccess("supervisor's write", Rig.WRITE, 1, 0, F);
        rig.dueFault("supervisor's write", 3, 1);
        rig.set(Rig.MODE, 1);
        rig.dueAccess("user's read", Rig.READ, 2, 0, F);
        rig.dueFault("user's read", 5, 2);
        rig.dueAccess("user's write", Rig.WRITE, 16, 0, F);
        rig.dueFault("user's write", 7, 16);
        rig.dueAccess("user's fetch", Rig.FETCH, 4, 0, F);
        rig.dueFault("user's fetch", 21, 4);
        rig.dueAccess("one that is let", Rig.FETCH, 20, 0, 0);
        rig.dueFault("the last one stays", 21, 4);
    }

    private static void marksOnEntries() {
        Rig rig = paged(Rig.to(8, 7));
        rig.host.harvest(0);
        rig.dueAccess("read", Rig.READ, 0, 0, 0);
        Check.due("the first entry", rig.host.peek(0, 16), Rig.to(2, 7 | Rig.ACC));
        Check.due("the LEAF", rig.host.peek(0, 32), Rig.to(8, 7 | Rig.ACC));
        Check.due("both pages are DIRTY", rig.host.harvest(0), 2);
        rig.dueAccess("write", Rig.WRITE, 0, 5, 0);
        Check.due("the first entry", rig.host.peek(0, 16), Rig.to(2, 7 | Rig.ACC));
        Check.due("the LEAF", rig.host.peek(0, 32), Rig.to(8, 7 | Rig.ACC | Rig.DTY));
        Check.due("the LEAF's page and the page", rig.host.harvest(0), 2);
        Check.due("which", rig.host.dirty(0), 2);
        Check.due("which", rig.host.dirty(1), 8);
        rig.host.flush(0, 0, 0);
        rig.dueAccess("read", Rig.READ, 0, 0, 5);
        Check.due("nothing lacked", rig.host.harvest(0), 0);
        rig.duePlace("DIRTY from the LEAF", 2, 0, 8, 1 + 2 + 8, 0);
        rig.write(32, Rig.to(8, Rig.P | Rig.DTY));
        rig.host.flush(0, 0, 0);
        rig.dueAccess("write without WRITE", Rig.WRITE, 0, 6, 0);
        Check.due("ACCESSED too", rig.host.peek(0, 32), Rig.to(8, Rig.P | Rig.ACC | Rig.DTY));
        rig.duePlace("let by MODE alone", 3, 0, 8, 8, 0);
    }

    private static void exitsInWalks() {
        Rig rig = new Rig(64);
        rig.set(Rig.ROOT, 64);
        rig.set(Rig.BITS, 1);
        rig.dueAccess("ROOT is no memory", Rig.WRITE, 0x345, 1, E);
        rig.dueExit("ROOT is no memory", Rig.NOTHING, 64 * 16 + 3, 0x345, 1, 1);
        rig.set(Rig.ROOT, 1);
        rig.write(16, Rig.to(100, 7), Rig.to(2, 7), Rig.to(3, 7));
        rig.dueAccess("a table that is no memory", Rig.FETCH, 0x047, 0, E);
        rig.dueExit("a table that is none", Rig.NOTHING, 100 * 16 + 4, 0x047, 2, 1);
        rig.host.deny(0, 2, 1);
        rig.dueAccess("a table DENIED", Rig.READ, 0x1F3, 0, E);
        rig.dueExit("a table DENIED", Rig.DENIED, 2 * 16 + 15, 0x1F3, 0, 1);
        rig.host.deny(0, 1, 1);
        rig.dueAccess("ROOT DENIED", Rig.READ, 0x1F3, 0, E);
        rig.dueExit("ROOT DENIED", Rig.DENIED, 16 + 1, 0x1F3, 0, 1);
        rig.host.deny(0, 1, 6);
        rig.host.deny(0, 2, 6);
        rig.dueAccess("not for READ", Rig.READ, 0x1F3, 0, F);
        rig.dueFault("not for READ", 0, 0x1F3);
    }

    private static void exitsOfMarking() {
        Rig rig = paged(Rig.to(8, 7));
        rig.host.deny(0, 1, 2);
        rig.dueAccess("the first can't be marked", Rig.READ, 3, 0, E);
        rig.dueExit("the first", Rig.DENIED, 16, 3, 0, 1);
        Check.due("the LEAF is not", rig.host.peek(0, 32), Rig.to(8, 7));
        rig.host.deny(0, 1, 0);
        rig.host.deny(0, 2, 2);
        rig.dueAccess("the LEAF can't be marked", Rig.FETCH, 3, 0, E);
        rig.dueExit("the LEAF", Rig.DENIED, 32, 3, 2, 1);
        Check.due("the first is", rig.host.peek(0, 16), Rig.to(2, 7 | Rig.ACC));
        Check.due("no place", rig.host.aside(0, 0, 0), -1);
        rig.write(32, Rig.to(8, 7 | Rig.ACC));
        rig.dueAccess("it needs none for a READ", Rig.READ, 3, 0, 0);
        rig.dueAccess("but for a WRITE", Rig.WRITE, 3, 1, E);
        rig.dueExit("DIRTY", Rig.DENIED, 32, 3, 1, 1);
        Check.due("its place went", rig.host.aside(0, 0, 0), -1);
    }

    private static void devicesInWalks() {
        Rig rig = new Rig(64);
        rig.set(Rig.BITS, 1);
        rig.set(Rig.ROOT, 243);
        rig.dueAccess("ROOT is a device", Rig.READ, 0x412, 0, E);
        rig.dueExit("ROOT is a device", Rig.DEVICE, 243 * 16 + 4, 0x412, 0, 1);
        rig.set(Rig.ROOT, 1);
        rig.write(16, Rig.to(240, 7), Rig.to(2, 7));
        rig.write(32, Rig.to(240, 7));
        rig.dueAccess("a table is a device", Rig.WRITE, 0x012, 0, E);
        rig.dueExit("a table is a device", Rig.DEVICE, 240 * 16 + 1, 0x012, 1, 1);
        rig.dueAccess("a page is a device", Rig.WRITE, 0x100, 66, 0);
        Check.due("printed", rig.host.printed(0, 0), 66);
        rig.dueAccess("a fetch from it", Rig.FETCH, 0x100, 66, E);
        rig.dueExit("a fetch from it", Rig.DEVICE, 240 * 16, 0x100, 2, 0);
    }

    private static void placesAreTold() {
        Rig rig = paged(Rig.to(8, Rig.P | Rig.W), Rig.to(9, Rig.P | Rig.U | Rig.NX | Rig.GLOBAL),
            Rig.to(10, 7 | Rig.ACC | Rig.DTY));
        rig.set(Rig.ASID, 3);
        rig.dueAccess("read", Rig.READ, 0, 0, 0);
        rig.dueAccess("read", Rig.READ, 16, 0, 0);
        rig.dueAccess("read", Rig.READ, 32, 0, 0);
        rig.duePlace("WRITE", 0, 0, 8, 1, 3);
        rig.duePlace("USER, NOT EXECUTE, GLOBAL", 1, 1, 9, 2 + 4 + 16, 3);
        rig.duePlace("WRITE, USER, DIRTY", 2, 2, 10, 1 + 2 + 8, 3);
        for (int what = 0; what < 4; what++) {
            Check.due("an empty one", rig.host.aside(0, 3, what), -1);
        }
        Check.badState("no VCPU", () -> rig.host.aside(1, 0, 0));
    }

    private static void placesGoRound() {
        int[] leaves = new int[16];
        for (int i = 0; i < 16; i++) {
            leaves[i] = Rig.to(10 + i, 7);
        }
        Rig rig = paged(leaves);
        for (int page = 0; page < 9; page++) {
            rig.dueAccess("read", Rig.READ, page * 16, 0, 0);
        }
        Check.due("0 again", rig.host.aside(0, 0, 0), 8);
        Check.due("1 as it was", rig.host.aside(0, 1, 0), 1);
        Check.due("the last", rig.host.aside(0, 7, 0), 7);
        Check.due("flush", rig.host.flush(0, 2, 5 * 16 + 3), 1);
        rig.dueAccess("the next, whatever is empty", Rig.READ, 9 * 16, 0, 0);
        Check.due("place 1", rig.host.aside(0, 1, 0), 9);
        Check.due("place 5", rig.host.aside(0, 5, 0), -1);
        Check.due("flush all", rig.host.flush(0, 0, 0), 7);
        rig.dueAccess("goes on", Rig.READ, 0, 0, 0);
        Check.due("place 0", rig.host.aside(0, 0, 0), -1);
        Check.due("place 2", rig.host.aside(0, 2, 0), 0);
    }

    private static void placesBindUntilFlushed() {
        Rig rig = paged(Rig.to(8, 7));
        rig.write(8 * 16, 80);
        rig.write(9 * 16, 90);
        rig.dueAccess("read", Rig.READ, 0, 0, 80);
        rig.write(32, Rig.to(9, 7));
        rig.dueAccess("as before", Rig.READ, 0, 0, 80);
        rig.set(Rig.ROOT, 5);
        rig.dueAccess("set flushes nothing", Rig.READ, 0, 0, 80);
        rig.set(Rig.ROOT, 1);
        rig.host.swap(0, 8);
        rig.dueAccess("the host's swap binds at once", Rig.READ, 0, 0, 80);
        Check.due("a SWAPIN", rig.host.count(0, 6), 1);
        rig.host.move(0, 8);
        rig.dueAccess("its move too", Rig.READ, 0, 0, 80);
        rig.host.deny(0, 8, 1);
        rig.dueAccess("its deny too", Rig.READ, 0, 0, E);
        rig.dueExit("its deny", Rig.DENIED, 8 * 16, 0, 0, 0);
        Check.due("the place stays", rig.host.aside(0, 0, 1), 8);
        Check.due("flush", rig.host.flush(0, 2, 15), 1);
        rig.dueAccess("now", Rig.READ, 0, 0, 90);
    }

    private static void placesThatWillNotDo() {
        Rig rig = paged(Rig.to(8, Rig.P | Rig.W));
        rig.dueAccess("read", Rig.READ, 0, 0, 0);
        rig.write(32, Rig.to(9, 7));
        rig.dueAccess("a WRITE without DIRTY walks", Rig.WRITE, 0, 5, 0);
        Check.due("to the new page", rig.host.peek(0, 9 * 16), 5);
        Check.due("place 0 is empty", rig.host.aside(0, 0, 0), -1);
        rig.duePlace("place 1", 1, 0, 9, 1 + 2 + 8, 0);
        rig.write(32, Rig.to(8, Rig.P));
        rig.dueAccess("by the place", Rig.WRITE, 0, 6, 0);
        Check.due("to page 9", rig.host.peek(0, 9 * 16), 6);
        rig.host.flush(0, 0, 0);
        rig.dueAccess("read", Rig.READ, 0, 0, 0);
        rig.set(Rig.MODE, 1);
        rig.dueAccess("not USER", Rig.READ, 0, 0, F);
        rig.dueFault("not USER", 5, 0);
        Check.due("its place is empty", rig.host.aside(0, 2, 0), -1);
        rig.set(Rig.MODE, 0);
        rig.dueAccess("write", Rig.WRITE, 0, 7, 0);
        rig.set(Rig.BITS, 3);
        rig.dueAccess("with WP", Rig.WRITE, 0, 8, F);
        rig.dueFault("with WP", 3, 0);
        Check.due("its place is empty", rig.host.aside(0, 3, 0), -1);
        rig.write(32, Rig.to(8, 7 | Rig.NX));
        rig.dueAccess("read", Rig.READ, 0, 0, 7);
        rig.dueAccess("NOT EXECUTE", Rig.FETCH, 0, 0, F);
        rig.dueFault("NOT EXECUTE", 17, 0);
        Check.due("its place is empty", rig.host.aside(0, 4, 0), -1);
    }

    private static void leastPlaceCounts() {
        Rig rig = paged(Rig.to(8, 7 | Rig.ACC | Rig.GLOBAL), Rig.to(9, 7));
        rig.set(Rig.ASID, 1);
        rig.dueAccess("page 1", Rig.READ, 16, 0, 0);
        rig.set(Rig.ASID, 0);
        rig.dueAccess("GLOBAL", Rig.READ, 0, 0, 0);
        rig.write(32, Rig.to(8, 7), Rig.to(10, 7 | Rig.GLOBAL));
        rig.write(10 * 16, 100);
        rig.write(9 * 16, 90);
        rig.dueAccess("page 1 of ASID 0", Rig.READ, 16, 0, 100);
        rig.set(Rig.ASID, 1);
        rig.dueAccess("place 0 fits before place 2", Rig.READ, 16, 0, 90);
        rig.dueAccess("a WRITE empties it alone", Rig.WRITE, 16, 5, 0);
        Check.due("place 0", rig.host.aside(0, 0, 0), -1);
        Check.due("place 2", rig.host.aside(0, 2, 0), 1);
        rig.duePlace("place 3", 3, 1, 10, 1 + 2 + 8 + 16, 1);
        rig.dueAccess("then place 2 counts, without DIRTY", Rig.WRITE, 16, 6, 0);
        Check.due("place 2", rig.host.aside(0, 2, 0), -1);
        Check.due("place 4", rig.host.aside(0, 4, 0), 1);
        Check.due("flush those that fit", rig.host.flush(0, 2, 16), 2);
    }

    private static void asidsAndGlobals() {
        Rig rig = paged(Rig.to(8, 7), Rig.to(9, 7 | Rig.GLOBAL));
        rig.write(8 * 16, 80);
        rig.write(9 * 16, 90);
        rig.dueAccess("own", Rig.READ, 0, 0, 80);
        rig.dueAccess("GLOBAL", Rig.READ, 16, 0, 90);
        rig.write(32, 0, 0);
        rig.set(Rig.ASID, 2);
        rig.dueAccess("another ASID's does not fit", Rig.READ, 0, 0, F);
        rig.dueAccess("a GLOBAL one does", Rig.READ, 16, 0, 90);
        rig.set(Rig.ASID, 0);
        rig.dueAccess("its own again", Rig.READ, 0, 0, 80);
    }

    private static void flushes() {
        Rig rig = new Rig(64);
        rig.write(16, Rig.to(2, 7), Rig.to(32, 7 | Rig.LARGE), Rig.to(48, 7 | Rig.LARGE | Rig.GLOBAL));
        rig.write(32, Rig.to(8, 7), Rig.to(9, 7 | Rig.GLOBAL));
        rig.set(Rig.ROOT, 1);
        rig.set(Rig.BITS, 1);
        for (int address : new int[] {0, 16, 256, 512}) {
            rig.dueAccess("read", Rig.READ, address, 0, 0);
        }
        rig.set(Rig.ASID, 1);
        rig.dueAccess("read", Rig.READ, 0, 0, 0);
        Check.due("no fit", rig.host.flush(0, 2, 48), 0);
        Check.due("LARGE of another ASID", rig.host.flush(0, 2, 256 + 3 * 16), 0);
        Check.due("LARGE and GLOBAL", rig.host.flush(0, 2, 512 + 15 * 16 + 15), 1);
        Check.due("place 3 went", rig.host.aside(0, 3, 0), -1);
        Check.due("of its ASID, not GLOBAL", rig.host.flush(0, 1, 4095), 1);
        Check.due("place 4 went", rig.host.aside(0, 4, 0), -1);
        rig.set(Rig.ASID, 0);
        Check.due("LARGE", rig.host.flush(0, 2, 256 + 3 * 16), 1);
        Check.due("of its ASID, not GLOBAL", rig.host.flush(0, 1, 0), 1);
        Check.due("place 1 stays", rig.host.aside(0, 1, 0), 1);
        Check.due("all", rig.host.flush(0, 0, 0), 1);
        Check.due("all again", rig.host.flush(0, 0, 0), 0);
        Check.badState("no VCPU", () -> rig.host.flush(1, 0, 0));
        int second = rig.host.vcpu(0);
        rig.host.set(second, Rig.ROOT, 1);
        rig.host.set(second, Rig.BITS, 1);
        rig.host.access(second, 0, 0, 0);
        rig.dueAccess("read", Rig.READ, 0, 0, 0);
        Check.due("of this VCPU alone", rig.host.flush(0, 0, 0), 1);
        Check.due("the other's stays", rig.host.aside(second, 0, 0), 0);
    }

    private static void placeStaysWithExit() {
        Rig rig = paged(Rig.to(70, 7), Rig.to(8, 7));
        rig.dueAccess("a page that is none", Rig.WRITE, 7, 1, E);
        rig.dueExit("a page that is none", Rig.NOTHING, 70 * 16 + 7, 7, 1, 0);
        rig.duePlace("its place is told", 0, 0, 70, 1 + 2 + 8, 0);
        Check.due("the LEAF is marked", rig.host.peek(0, 32), Rig.to(70, 7 | Rig.ACC | Rig.DTY));
        rig.host.deny(0, 8, 2);
        rig.dueAccess("a page DENIED", Rig.WRITE, 16, 1, E);
        rig.dueExit("a page DENIED", Rig.DENIED, 8 * 16, 16, 1, 0);
        rig.duePlace("its place is told", 1, 1, 8, 1 + 2 + 8, 0);
        Check.due("not ACCESSED", rig.host.entry(0, 8), 2);
    }

    /** A table that is its own page: the first entry and the LEAF are one word. */
    private static void selfMap() {
        Rig rig = new Rig(16);
        rig.write(16, Rig.to(1, 7));
        rig.set(Rig.ROOT, 1);
        rig.set(Rig.BITS, 1);
        rig.dueAccess("read", Rig.READ, 0, 0, Rig.to(1, 7 | Rig.ACC));
        rig.dueAccess("write", Rig.WRITE, 1, Rig.to(2, 7), 0);
        rig.dueAccess("read", Rig.READ, 0, 0, Rig.to(1, 7 | Rig.ACC | Rig.DTY));
        rig.dueAccess("the entry written", Rig.WRITE, 16, 5, 0);
        Check.due("the word", rig.host.peek(0, 32), 5);
    }
}
