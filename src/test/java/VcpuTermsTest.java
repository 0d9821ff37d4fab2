/** A test for each sentence of "VIRTUAL PROCESSORS" (Terms) that names an edge; each begins with the sentence. */
final class VcpuTermsTest {
    private static final int F = NestedPager.FAULT;
    private static final int E = NestedPager.EXIT;
    private static final int ALL = Rig.P | Rig.W | Rig.U;

    private VcpuTermsTest() {
    }

    public static void main(String[] args) {
        vcpusAreEight();
        registersAtFirst();
        registersAtFirstAgain();
        registersHaveLimits();
        addressesHaveLimits();
        withoutPaging();
        placeFitsItsPage();
        placeOfPageZero();
        placeFitsByAsid();
        placeFitsIfLarge();
        leastPlaceCounts();
        leastPlaceThatWillNotDo();
        placeOfWriteIsDirty();
        entryOfRoot();
        rootThatIsNotReached();
        firstNotPresent();
        largeIsLeaf();
        largeOutOfPlace();
        largeOnDevices();
        leafOfTable();
        tableThatIsNotReached();
        userNeedsBoth();
        writeNeedsBoth();
        executeNeedsBoth();
        firstIsMarkedBeforeLeaf();
        marksGoToTheirWords();
        marksThatLack();
        placesInTurn();
        placesAreNotToldInVain();
        placeTellsLeaf();
        pageIsReachedLast();
        codesOfFaults();
        lastFault();
        exitsTellAll();
        exitsInWalks();
        devicesAreNoTables();
        flushAll();
        flushOwn();
        flushFitting();
        Check.end();
    }

    /** Tables in pages 1 (the root), 2 and 3; pages from 4 on have 1000 + page as word 0; PAGING is on. */
    private static Rig paged(int firstBits, int... leaves) {
        Rig rig = new Rig(64);
        rig.write(16, Rig.to(2, firstBits), Rig.to(3, firstBits));
        rig.write(32, leaves);
        for (int page = 4; page < 12; page++) {
            rig.write(page * 16, 1000 + page);
        }
        rig.set(Rig.ROOT, 1);
        rig.set(Rig.BITS, 1);
        return rig;
    }

    private static void dueEmpty(Rig rig, int i) {
        for (int what = 0; what < 4; what++) {
            Check.due("aside(" + i + ", " + what + ")", rig.host.aside(rig.cpu, i, what), -1);
        }
    }

    private static void vcpusAreEight() {
        Check.sentence("VCPUS are 0 .. 7, each of a guest.");
        NestedPager host = new NestedPager();
        host.guest(1);
        host.guest(1);
        for (int i = 0; i < 8; i++) {
            int vcpu = i;
            Check.badState("not yet", () -> host.get(vcpu, 0));
            Check.due("vcpu", host.vcpu(i / 4), i);
            Check.due("its guest", host.get(i, Rig.GUEST), i / 4);
        }
        for (int bad : new int[] {-1, 8}) {
            Check.badArgument("get", () -> host.get(bad, 0));
            Check.badArgument("access", () -> host.access(bad, 0, 0, 0));
        }
    }

    private static void registersAtFirst() {
        Check.sentence("HANDLER (an address, or NONE: at first), what a FAULT kept (EPC, EMODE, ECODE, EVA), "
            + "all others at first 0, and 8 LOOK-ASIDE places, at first empty.");
        Rig rig = new Rig(1);
        for (int what = 0; what < 19; what++) {
            rig.dueReg("at first", what, what == Rig.HANDLER ? -1 : 0);
        }
        for (int i = 0; i < 8; i++) {
            dueEmpty(rig, i);
        }
        Check.badArgument("place 8", () -> rig.host.aside(0, 8, 0));
        Check.badArgument("place -1", () -> rig.host.aside(0, -1, 0));
    }

    /** A VCPU that has a number again has nothing of the one that had it before. */
    private static void registersAtFirstAgain() {
        Check.sentence("all others at first 0, and 8 LOOK-ASIDE places, at first empty.");
        Rig rig = paged(ALL, Rig.to(0, ALL), Rig.to(9, ALL));
        rig.write(0, Rig.trap(5));
        rig.set(Rig.HANDLER, 100);
        rig.dueRun("a FAULT", 1, 1);
        rig.dueRun("another", 1, 0);
        rig.dueAccess("an EXIT in a WALK", Rig.FETCH, 0x300, 0, F);
        rig.set(Rig.ROOT, 200);
        rig.dueAccess("an EXIT in a WALK", Rig.FETCH, 0x305, 0, E);
        rig.set(Rig.BITS, 0);
        rig.dueAccess("an EVENT", Rig.WRITE, Rig.POST, 1, 0);
        for (int what : new int[] {Rig.A, Rig.X, Rig.PC, Rig.MODE, Rig.BITS, Rig.ROOT, Rig.ASID, Rig.EPC, Rig.EMODE}) {
            rig.set(what, 1);
        }
        for (int what = 0; what < 19; what++) {
            Check.holds("get(" + what + ") is no longer what it was at first",
                what == Rig.GUEST || rig.get(what) != (what == Rig.HANDLER ? -1 : 0));
        }
        rig.host.destroy(0);
        Check.due("guest", rig.host.guest(64), 0);
        Check.due("vcpu", rig.host.vcpu(0), 0);
        for (int what = 0; what < 19; what++) {
            rig.dueReg("at first again", what, what == Rig.HANDLER ? -1 : 0);
        }
        rig.dueExit("no EXIT", 0, 0, 0, 0, 0);
        for (int i = 0; i < 8; i++) {
            dueEmpty(rig, i);
        }
        rig.write(16, Rig.to(2, ALL));
        rig.write(32, Rig.to(8, ALL));
        rig.set(Rig.ROOT, 1);
        rig.set(Rig.BITS, 1);
        rig.dueAccess("a place", Rig.READ, 0, 0, 0);
        Check.due("place 0 is the first", rig.host.aside(0, 0, 1), 8);
    }

    /** Page 0 is a page like any other, for a place and for a WALK. */
    private static void placeOfPageZero() {
        Check.sentence("it tells the guest's page;");
        Rig rig = paged(ALL, Rig.to(0, ALL));
        rig.write(0, 1000);
        rig.dueAccess("a WALK", Rig.READ, 0, 0, 1000);
        rig.write(32, Rig.to(9, ALL));
        rig.dueAccess("the place", Rig.READ, 0, 0, 1000);
        rig.duePlace("the place", 0, 0, 0, 3, 0);
        dueEmpty(rig, 1);
    }

    private static void registersHaveLimits() {
        Check.sentence("It has A, X (words), PC (0 .. 4095), MODE (0 supervisor, 1 user), BITS (1 PAGING, 2 WP, "
            + "together), ROOT (a page 0 .. 255), ASID (0 .. 3),");
        Rig rig = new Rig(1);
        int[] highest = {65535, 65535, 4095, 1, 3, 255, 3, 4095, 4095, 1};
        for (int i = 0; i < 10; i++) {
            int what = i;
            int lowest = what == Rig.HANDLER ? -1 : 0;
            rig.set(what, highest[what]);
            Check.badArgument("too large for " + what, () -> rig.set(what, highest[what] + 1));
            rig.dueReg("the greatest stays", what, highest[what]);
            rig.set(what, lowest);
            Check.badArgument("too small for " + what, () -> rig.set(what, lowest - 1));
            rig.dueReg("the least stays", what, lowest);
        }
    }

    private static void addressesHaveLimits() {
        Check.sentence("AN ACCESS of a VCPU: READ (0), WRITE (1), FETCH (2: EXECUTE) at an address 0 .. 4095: "
            + "page address / 16, word address % 16.");
        Rig rig = new Rig(128);
        for (int address : new int[] {0, 15, 16, 2032, 2047}) {
            rig.dueAccess("WRITE", Rig.WRITE, address, address + 1, 0);
            Check.due("page and word", rig.host.peek(0, address), address + 1);
            rig.dueAccess("READ", Rig.READ, address, 0, address + 1);
            rig.dueAccess("FETCH", Rig.FETCH, address, 0, address + 1);
        }
        Check.due("three pages", rig.host.count(0, 5), 3);
        rig.dueAccess("the last address", Rig.READ, 4095, 0, E);
        rig.dueExit("the last address", Rig.NOTHING, 4095, 4095, 0, 0);
        for (int bad : new int[] {-1, 4096}) {
            Check.badArgument("address " + bad, () -> rig.access(0, bad, 0));
        }
        for (int bad : new int[] {-1, 3}) {
            Check.badArgument("kind " + bad, () -> rig.access(bad, 0, 0));
        }
    }

    private static void withoutPaging() {
        Check.sentence("Without PAGING the page is that of the guest; otherwise:");
        Rig rig = paged(ALL, Rig.to(8, Rig.P));
        for (int bits : new int[] {0, 2}) {
            rig.set(Rig.BITS, bits);
            for (int mode = 0; mode < 2; mode++) {
                rig.set(Rig.MODE, mode);
                rig.dueAccess("WRITE", Rig.WRITE, 4 * 16, 9, 0);
                rig.dueAccess("READ", Rig.READ, 4 * 16, 0, 9);
                rig.dueAccess("FETCH", Rig.FETCH, 4 * 16, 0, 9);
            }
        }
        dueEmpty(rig, 0);
        rig.set(Rig.BITS, 1);
        rig.set(Rig.MODE, 0);
        rig.dueAccess("with PAGING", Rig.READ, 0, 0, 1008);
        rig.set(Rig.BITS, 2);
        rig.dueAccess("a place counts for nothing", Rig.READ, 8, 0, 0);
        Check.due("page 0 it was", rig.host.entry(0, 0) & 127, 32 + 8);
    }

    private static void placeFitsItsPage() {
        Check.sentence("LOOK-ASIDE: a place fits if its ASID is the VCPU's, or it is GLOBAL, and its page is the "
            + "address's (if it is LARGE: page / 16).");
        Rig rig = paged(ALL, Rig.to(8, ALL), Rig.to(9, ALL), Rig.to(10, ALL));
        rig.dueAccess("page 1", Rig.READ, 16, 0, 1009);
        rig.write(32, Rig.to(4, ALL), Rig.to(5, ALL), Rig.to(6, ALL));
        rig.dueAccess("its first word", Rig.READ, 16, 0, 1009);
        rig.dueAccess("its last word", Rig.READ, 31, 0, 0);
        Check.due("no other place yet", rig.host.aside(0, 1, 0), -1);
        rig.dueAccess("the page before", Rig.READ, 0, 0, 1004);
        rig.dueAccess("the page behind", Rig.READ, 32, 0, 1006);
        Check.due("place 1", rig.host.aside(0, 1, 0), 0);
        Check.due("place 2", rig.host.aside(0, 2, 0), 2);
        dueEmpty(rig, 3);
    }

    private static void placeFitsByAsid() {
        Check.sentence("LOOK-ASIDE: a place fits if its ASID is the VCPU's, or it is GLOBAL, and its page is the "
            + "address's (if it is LARGE: page / 16).");
        Rig rig = paged(ALL, Rig.to(8, ALL), Rig.to(9, ALL | Rig.GLOBAL));
        for (int asid = 0; asid < 4; asid++) {
            rig.set(Rig.ASID, asid);
            rig.dueAccess("of this ASID", Rig.READ, 0, 0, 1008);
            rig.dueAccess("GLOBAL", Rig.READ, 16, 0, 1009);
        }
        int[] page = {0, 1, 0, 0, 0, -1, -1, -1};
        int[] asid = {0, 0, 1, 2, 3, -1, -1, -1};
        for (int i = 0; i < 8; i++) {
            Check.due("page of place " + i, rig.host.aside(0, i, 0), page[i]);
            Check.due("ASID of place " + i, rig.host.aside(0, i, 3), asid[i]);
        }
    }

    private static void placeFitsIfLarge() {
        Check.sentence("LOOK-ASIDE: a place fits if its ASID is the VCPU's, or it is GLOBAL, and its page is the "
            + "address's (if it is LARGE: page / 16).");
        Rig rig = new Rig(64);
        rig.write(16, 0, Rig.to(32, ALL | Rig.LARGE), 0, 0);
        rig.write(32 * 16, 32);
        rig.write(47 * 16 + 12, 0, 0, 0, 47);
        rig.set(Rig.ROOT, 1);
        rig.set(Rig.BITS, 1);
        rig.dueAccess("in its midst", Rig.READ, 0x155, 0, 0);
        rig.duePlace("LARGE", 0, 16, 32, 1 + 2 + 32, 0);
        rig.write(16, 0, 0, 0, 0);
        rig.dueAccess("its first word", Rig.READ, 0x100, 0, 32);
        rig.dueAccess("its last word", Rig.FETCH, 0x1FF, 0, 47);
        rig.dueAccess("the word before", Rig.READ, 0x0FF, 0, F);
        rig.dueAccess("the word behind", Rig.READ, 0x200, 0, F);
        rig.dueAccess("page 1 is not page / 16", Rig.READ, 0x010, 0, F);
        dueEmpty(rig, 1);
        rig.set(Rig.ASID, 1);
        rig.dueAccess("another ASID", Rig.READ, 0x100, 0, F);
    }

    /** Places 0 (of ASID 0, to page 8) and 1 (GLOBAL, DIRTY, to page 9) both fit page 0; the tables lead to page 10. */
    private static Rig twoPlaces() {
        Rig rig = paged(ALL, Rig.to(8, ALL));
        rig.dueAccess("place 0", Rig.READ, 0, 0, 1008);
        rig.write(32, Rig.to(9, ALL | Rig.GLOBAL));
        rig.set(Rig.ASID, 1);
        rig.dueAccess("place 1", Rig.WRITE, 1, 7, 0);
        rig.write(32, Rig.to(10, ALL));
        rig.set(Rig.ASID, 0);
        return rig;
    }

    private static void leastPlaceCounts() {
        Check.sentence("The least place that fits counts: if it lets the access (as below), and for a WRITE is DIRTY, "
            + "it tells the guest's page;");
        Rig rig = twoPlaces();
        rig.dueAccess("place 0 counts", Rig.READ, 0, 0, 1008);
        rig.set(Rig.ASID, 1);
        rig.dueAccess("place 0 does not fit", Rig.READ, 0, 0, 1009);
        rig.dueAccess("a WRITE by what is DIRTY", Rig.WRITE, 2, 6, 0);
        Check.due("page 9 was written", rig.host.peek(0, 9 * 16 + 2), 6);
        dueEmpty(rig, 2);
    }

    private static void leastPlaceThatWillNotDo() {
        Check.sentence("otherwise that place is empty, and there is a WALK (as if none fits).");
        Rig rig = twoPlaces();
        rig.dueAccess("place 0 is not DIRTY", Rig.WRITE, 2, 6, 0);
        Check.due("page 8 is not written", rig.host.peek(0, 8 * 16 + 2), 0);
        Check.due("nor page 9, though place 1 would do", rig.host.peek(0, 9 * 16 + 2), 0);
        Check.due("page 10 is", rig.host.peek(0, 10 * 16 + 2), 6);
        dueEmpty(rig, 0);
        rig.duePlace("place 1 stays", 1, 0, 9, 1 + 2 + 8 + 16, 1);
        rig.duePlace("place 2 is new", 2, 0, 10, 1 + 2 + 8, 0);
        rig.dueAccess("now place 1 is the least", Rig.READ, 0, 0, 1009);
        rig = twoPlaces();
        rig.write(32, 0);
        rig.dueAccess("a WALK that is a FAULT", Rig.WRITE, 2, 6, F);
        dueEmpty(rig, 0);
        rig.duePlace("place 1 stays", 1, 0, 9, 1 + 2 + 8 + 16, 1);
        dueEmpty(rig, 2);
        rig = paged(ALL, Rig.to(8, Rig.P | Rig.W | Rig.NX));
        rig.dueAccess("place 0", Rig.WRITE, 1, 5, 0);
        rig.write(32, Rig.to(9, ALL));
        rig.dueAccess("NOT EXECUTE", Rig.FETCH, 0, 0, 1009);
        dueEmpty(rig, 0);
        rig.duePlace("place 1", 1, 0, 9, 1 + 2, 0);
    }

    private static void placeOfWriteIsDirty() {
        Check.sentence("if it lets the access (as below), and for a WRITE is DIRTY, it tells the guest's page;");
        Rig rig = paged(ALL, Rig.to(8, Rig.P | Rig.W), Rig.to(9, Rig.P));
        rig.dueAccess("WRITE", Rig.WRITE, 1, 5, 0);
        rig.write(32, 0);
        rig.dueAccess("WRITE by the place", Rig.WRITE, 1, 6, 0);
        Check.due("written", rig.host.peek(0, 8 * 16 + 1), 6);
        rig.set(Rig.MODE, 1);
        rig.dueAccess("not USER", Rig.WRITE, 1, 7, F);
        dueEmpty(rig, 0);
        rig.set(Rig.MODE, 0);
        rig.write(32, 0, Rig.to(9, Rig.P));
        rig.dueAccess("WRITE without WP", Rig.WRITE, 17, 5, 0);
        rig.duePlace("DIRTY without WRITE", 1, 1, 9, 8, 0);
        rig.dueAccess("again", Rig.WRITE, 17, 6, 0);
        rig.set(Rig.BITS, 3);
        rig.dueAccess("READ with WP", Rig.READ, 17, 0, 6);
        rig.dueAccess("WRITE with WP", Rig.WRITE, 17, 7, F);
        dueEmpty(rig, 1);
    }

    private static void entryOfRoot() {
        Check.sentence("A WALK: page ROOT is REACHED for READ: the entry there is its word address / 256.");
        for (int word : new int[] {0, 1, 15}) {
            Rig rig = new Rig(128);
            rig.write(127 * 16 + word / 4 * 4, fourWith(word % 4, Rig.to(2, ALL)));
            rig.write(32, Rig.to(8, ALL));
            rig.write(44, 0, 0, 0, Rig.to(9, ALL));
            rig.set(Rig.ROOT, 127);
            rig.set(Rig.BITS, 1);
            rig.dueAccess("its first word", Rig.READ, word * 256, 0, 0);
            rig.dueAccess("its last word", Rig.WRITE, word * 256 + 255, 5, 0);
            Check.due("is in page 9", rig.host.peek(0, 9 * 16 + 15), 5);
            if (word > 0) {
                rig.dueAccess("the word before", Rig.READ, word * 256 - 1, 0, F);
            }
            if (word < 15) {
                rig.dueAccess("the word behind", Rig.READ, word * 256 + 256, 0, F);
            }
        }
    }

    private static int[] fourWith(int i, int v) {
        int[] four = new int[4];
        four[i] = v;
        return four;
    }

    private static void rootThatIsNotReached() {
        Check.sentence("A WALK: page ROOT is REACHED for READ:");
        Rig rig = new Rig(64);
        rig.set(Rig.BITS, 1);
        int[] root = {64, 128, 239, 244, 255, 240, 243};
        for (int page : root) {
            rig.set(Rig.ROOT, page);
            rig.dueAccess("ROOT " + page, Rig.WRITE, 4095, 0, E);
            int reason = page >= 240 && page <= 243 ? Rig.DEVICE : Rig.NOTHING;
            rig.dueExit("ROOT " + page, reason, page * 16 + 15, 4095, 1, 1);
        }
        rig.set(Rig.ROOT, 63);
        rig.dueAccess("a FRESH one", Rig.READ, 0, 0, F);
        Check.due("a DEMAND", rig.host.entry(0, 63) & 127, 32 + 8);
        rig.host.swap(0, 63);
        rig.dueAccess("a SWAPPED one", Rig.READ, 0, 0, F);
        Check.due("a SWAPIN", rig.host.count(0, 6), 1);
        rig.host.deny(0, 63, 6);
        rig.dueAccess("DENIED, but not for READ", Rig.FETCH, 0, 0, F);
        rig.host.deny(0, 63, 1);
        rig.dueAccess("DENIED", Rig.FETCH, 0x7AB, 0, E);
        rig.dueExit("DENIED", Rig.DENIED, 63 * 16 + 7, 0x7AB, 2, 1);
    }

    private static void firstNotPresent() {
        Check.sentence("If it is not PRESENT: a FAULT.");
        Rig rig = new Rig(64);
        rig.write(16, Rig.to(2, 255 - Rig.P), Rig.to(17, 255 - Rig.P), 0, 0);
        rig.set(Rig.ROOT, 1);
        rig.set(Rig.BITS, 1);
        rig.dueAccess("all but PRESENT", Rig.READ, 5, 0, F);
        rig.dueFault("not PRESENT", 0, 5);
        rig.dueAccess("LARGE and out of place", Rig.WRITE, 0x101, 0, F);
        rig.dueFault("not PRESENT goes first", 2, 0x101);
        rig.dueAccess("0", Rig.FETCH, 0x202, 0, F);
        rig.dueFault("0", 16, 0x202);
        rig.dueAccess("the last entry", Rig.READ, 4095, 0, F);
        Check.due("nothing is marked", rig.host.peek(0, 16), Rig.to(2, 254));
        Check.due("page 2 is not REACHED", rig.host.entry(0, 2), 0);
        dueEmpty(rig, 0);
    }

    private static void largeIsLeaf() {
        Check.sentence("If it is LARGE it is the LEAF: a FAULT, with 8, if its page is no multiple of 16; "
            + "the guest's page is it and page % 16.");
        for (int page : new int[] {0, 16, 112}) {
            Rig rig = new Rig(128);
            rig.write(3 * 16, Rig.to(page, ALL | Rig.LARGE));
            rig.set(Rig.ROOT, 3);
            rig.set(Rig.BITS, 1);
            rig.dueAccess("its last word", Rig.WRITE, 255, 77, 0);
            Check.due("page + 15", rig.host.peek(0, (page + 15) * 16 + 15), 77);
            rig.duePlace("the LEAF's page", 0, 0, page, 1 + 2 + 8 + 32, 0);
            rig.dueAccess("its page 1", Rig.WRITE, 16, 78, 0);
            Check.due("page + 1", rig.host.peek(0, (page + 1) * 16), 78);
            Check.due("it is marked", rig.host.peek(0, 3 * 16),
                Rig.to(page, ALL | Rig.LARGE | Rig.ACC | Rig.DTY));
        }
        for (int word : new int[] {1, 7, 15}) {
            for (int page : new int[] {0, 1, 15}) {
                Rig rig = new Rig(128);
                rig.write(3 * 16 + word / 4 * 4, fourWith(word % 4, Rig.to(64, ALL | Rig.LARGE)));
                rig.set(Rig.ROOT, 3);
                rig.set(Rig.BITS, 1);
                rig.dueAccess("entry " + word + " page " + page, Rig.WRITE, word * 256 + page * 16, 9, 0);
                Check.due("page % 16", rig.host.peek(0, (64 + page) * 16), 9);
                rig.duePlace("page / 16", 0, word * 16, 64, 1 + 2 + 8 + 32, 0);
                Check.due("it is marked", rig.host.peek(0, 3 * 16 + word),
                    Rig.to(64, ALL | Rig.LARGE | Rig.ACC | Rig.DTY));
            }
        }
        Rig rig = new Rig(128);
        rig.write(3 * 16, Rig.to(128, ALL | Rig.LARGE));
        rig.set(Rig.ROOT, 3);
        rig.set(Rig.BITS, 1);
        rig.dueAccess("no memory", Rig.READ, 0x0F2, 0, E);
        rig.dueExit("no memory", Rig.NOTHING, 143 * 16 + 2, 0x0F2, 0, 0);
    }

    private static void largeOutOfPlace() {
        Check.sentence("If it is LARGE it is the LEAF: a FAULT, with 8, if its page is no multiple of 16;");
        for (int page : new int[] {1, 8, 15, 17, 255}) {
            Rig rig = new Rig(64);
            rig.write(48, Rig.to(page, Rig.P | Rig.LARGE));
            rig.set(Rig.ROOT, 3);
            rig.set(Rig.BITS, 3);
            int[] codes = {9, 11, 25};
            for (int kind = 0; kind < 3; kind++) {
                for (int mode = 0; mode < 2; mode++) {
                    rig.set(Rig.MODE, mode);
                    rig.dueAccess("page " + page, kind, 20 + kind, 0, F);
                    rig.dueFault("page " + page, codes[kind] + 4 * mode, 20 + kind);
                }
            }
            Check.due("it is not marked", rig.host.peek(0, 48), Rig.to(page, Rig.P | Rig.LARGE));
            dueEmpty(rig, 0);
        }
    }

    private static void largeOnDevices() {
        Check.sentence("the guest's page is it and page % 16.");
        Rig rig = new Rig(64);
        rig.write(48, Rig.to(240, ALL | Rig.LARGE));
        rig.set(Rig.ROOT, 3);
        rig.set(Rig.BITS, 1);
        rig.dueAccess("the console", Rig.WRITE, 0, 65, 0);
        Check.due("printed", rig.host.printed(0, 0), 65);
        rig.dueAccess("the clock", Rig.READ, 16, 0, 2);
        rig.dueAccess("mail", Rig.READ, 3 * 16 + 5, 0, 0);
        rig.dueAccess("page 244", Rig.READ, 4 * 16, 0, E);
        rig.dueExit("page 244", Rig.NOTHING, 244 * 16, 64, 0, 0);
        rig.dueAccess("page 255", Rig.READ, 255, 0, E);
        rig.dueExit("page 255", Rig.NOTHING, 4095, 255, 0, 0);
    }

    private static void leafOfTable() {
        Check.sentence("its word (address / 16) % 16 is the LEAF (its LARGE counts for nothing); not PRESENT: a FAULT; "
            + "the guest's page is the LEAF's.");
        Rig rig = paged(ALL, Rig.to(8, ALL | Rig.LARGE), Rig.to(9, 255 - Rig.P - Rig.NX));
        rig.write(44, 0, 0, 0, Rig.to(10, ALL));
        rig.write(48, Rig.to(11, ALL));
        rig.dueAccess("word 0, LARGE and no multiple of 16", Rig.READ, 0, 0, 1008);
        rig.duePlace("not LARGE", 0, 0, 8, 1 + 2, 0);
        rig.dueAccess("word 15", Rig.READ, 0x0F0, 0, 1010);
        rig.dueAccess("word 0 of the next table", Rig.READ, 0x100, 0, 1011);
        rig.dueAccess("not PRESENT", Rig.READ, 0x010, 0, F);
        rig.dueFault("not PRESENT", 0, 0x010);
        rig.dueAccess("0", Rig.WRITE, 0x02F, 0, F);
        rig.dueFault("0", 2, 0x02F);
        rig.set(Rig.MODE, 1);
        rig.dueAccess("0 for a user's FETCH", Rig.FETCH, 0x11F, 0, F);
        rig.dueFault("0 for a user's FETCH", 20, 0x11F);
        Check.due("no mark on what is not PRESENT", rig.host.peek(0, 33), Rig.to(9, 255 - Rig.P - Rig.NX));
    }

    private static void tableThatIsNotReached() {
        Check.sentence("Otherwise its page is REACHED for READ:");
        Rig rig = new Rig(64);
        int[] tables = {64, 255, 240, 20};
        rig.write(16, Rig.to(64, ALL), Rig.to(255, ALL), Rig.to(240, ALL), Rig.to(20, ALL));
        rig.set(Rig.ROOT, 1);
        rig.set(Rig.BITS, 1);
        Hosts.give(newlyUnpaged(rig), 20);
        rig.set(Rig.BITS, 1);
        int[] reasons = {Rig.NOTHING, Rig.NOTHING, Rig.DEVICE, Rig.GIVEN};
        for (int i = 0; i < 4; i++) {
            int address = i * 256 + 0x9C;
            rig.dueAccess("table " + tables[i], Rig.READ, address, 0, E);
            rig.dueExit("table " + tables[i], reasons[i], tables[i] * 16 + 9, address, 0, 1);
            Check.due("the first entry is not marked", rig.host.peek(0, 16 + i), Rig.to(tables[i], ALL));
        }
    }

    private static Rig newlyUnpaged(Rig rig) {
        rig.set(Rig.BITS, 0);
        return rig;
    }

    private static void userNeedsBoth() {
        Check.sentence("The access is LET if: in user MODE both (the LEAF alone, if LARGE) have USER;");
        for (int way = 0; way < 4; way++) {
            int first = Rig.P | Rig.W | (way % 2 == 1 ? Rig.U : 0);
            int leaf = Rig.P | Rig.W | (way / 2 == 1 ? Rig.U : 0);
            for (int mode = 0; mode < 2; mode++) {
                for (int kind = 0; kind < 3; kind++) {
                    Rig rig = paged(first, Rig.to(8, leaf));
                    rig.set(Rig.MODE, mode);
                    boolean let = mode == 0 || way == 3;
                    rig.dueAccess("way " + way + " MODE " + mode, kind, 1, 0, let ? 0 : F);
                }
            }
        }
        for (int user = 0; user < 2; user++) {
            Rig rig = new Rig(64);
            rig.write(48, Rig.to(16, Rig.P | Rig.LARGE | user * Rig.U));
            rig.set(Rig.ROOT, 3);
            rig.set(Rig.BITS, 1);
            rig.set(Rig.MODE, 1);
            rig.dueAccess("LARGE", Rig.READ, 3, 0, user == 1 ? 0 : F);
        }
    }

    private static void writeNeedsBoth() {
        Check.sentence("for a WRITE both have WRITE, or MODE is 0 without WP;");
        for (int way = 0; way < 4; way++) {
            int first = Rig.P | Rig.U | (way % 2 == 1 ? Rig.W : 0);
            int leaf = Rig.P | Rig.U | (way / 2 == 1 ? Rig.W : 0);
            for (int mode = 0; mode < 2; mode++) {
                for (int wp = 0; wp < 2; wp++) {
                    Rig rig = paged(first, Rig.to(8, leaf));
                    rig.set(Rig.MODE, mode);
                    rig.set(Rig.BITS, 1 + 2 * wp);
                    boolean let = way == 3 || mode == 0 && wp == 0;
                    rig.dueAccess("way " + way + " MODE " + mode + " WP " + wp, Rig.WRITE, 1, 5, let ? 0 : F);
                    Check.due("the word", rig.host.peek(0, 8 * 16 + 1), let ? 5 : 0);
                    rig.dueAccess("a READ is let", Rig.READ, 0, 0, 1008);
                    rig.dueAccess("a FETCH is let", Rig.FETCH, 0, 0, 1008);
                }
            }
        }
    }

    private static void executeNeedsBoth() {
        Check.sentence("for a FETCH neither has NOT EXECUTE. Otherwise a FAULT, with 1.");
        for (int way = 0; way < 4; way++) {
            int first = ALL | (way % 2 == 1 ? Rig.NX : 0);
            int leaf = ALL | (way / 2 == 1 ? Rig.NX : 0);
            for (int mode = 0; mode < 2; mode++) {
                Rig rig = paged(first, Rig.to(8, leaf));
                rig.set(Rig.MODE, mode);
                rig.dueAccess("way " + way, Rig.FETCH, 0, 0, way == 0 ? 1008 : F);
                rig.dueFault("way " + way, way == 0 ? 0 : 17 + 4 * mode, 0);
                Check.due("the LEAF", rig.host.peek(0, 32), Rig.to(8, leaf | (way == 0 ? Rig.ACC : 0)));
                rig.dueAccess("a READ is let", Rig.READ, 0, 0, 1008);
            }
        }
    }

    private static void firstIsMarkedBeforeLeaf() {
        Check.sentence("Then the first entry, if it is not the LEAF, gets ACCESSED, and then the LEAF ACCESSED, for a "
            + "WRITE DIRTY, too:");
        for (int kind = 0; kind < 3; kind++) {
            Rig rig = paged(ALL, Rig.to(8, ALL));
            int marks = kind == Rig.WRITE ? Rig.ACC | Rig.DTY : Rig.ACC;
            rig.host.deny(0, 1, 2);
            rig.dueAccess("the first can't be marked", kind, 0, 0, E);
            rig.dueExit("the first can't be marked", Rig.DENIED, 16, 0, kind, 1);
            Check.due("the LEAF is not yet", rig.host.peek(0, 32), Rig.to(8, ALL));
            rig.host.deny(0, 1, 0);
            rig.host.deny(0, 2, 2);
            rig.dueAccess("the LEAF can't be marked", kind, 0, 0, E);
            rig.dueExit("the LEAF can't be marked", Rig.DENIED, 32, 0, kind, 1);
            Check.due("the first is already", rig.host.peek(0, 16), Rig.to(2, ALL | Rig.ACC));
            dueEmpty(rig, 0);
            rig.host.deny(0, 2, 0);
            rig.dueAccess("both", kind, 1, 0, 0);
            Check.due("the first has no DIRTY", rig.host.peek(0, 16), Rig.to(2, ALL | Rig.ACC));
            Check.due("the LEAF", rig.host.peek(0, 32), Rig.to(8, ALL | marks));
        }
    }

    /** Each mark goes to its own word, and no other word of the tables changes. */
    private static void marksGoToTheirWords() {
        Check.sentence("where one lacks these its page is REACHED for WRITE, and it is written.");
        for (int word : new int[] {0, 1, 14, 15}) {
            Rig rig = new Rig(64);
            for (int i = 0; i < 16; i += 4) {
                int to = Rig.to(2, ALL);
                rig.write(16 + i, to, to, to, to);
                to = Rig.to(8, ALL);
                rig.write(32 + i, to, to, to, to);
            }
            rig.set(Rig.ROOT, 1);
            rig.set(Rig.BITS, 1);
            rig.dueAccess("entries " + word, Rig.WRITE, word * 256 + (15 - word) * 16, 1, 0);
            for (int i = 0; i < 16; i++) {
                Check.due("first entry " + i, rig.host.peek(0, 16 + i), Rig.to(2, ALL | (i == word ? Rig.ACC : 0)));
                Check.due("LEAF " + i, rig.host.peek(0, 32 + i),
                    Rig.to(8, ALL | (i == 15 - word ? Rig.ACC | Rig.DTY : 0)));
            }
        }
    }

    private static void marksThatLack() {
        Check.sentence("where one lacks these its page is REACHED for WRITE, and it is written.");
        Rig rig = paged(ALL | Rig.ACC, Rig.to(8, ALL | Rig.ACC), Rig.to(9, ALL | Rig.ACC | Rig.DTY));
        rig.host.deny(0, 1, 2);
        rig.host.deny(0, 2, 2);
        rig.host.harvest(0);
        rig.dueAccess("none lacks for a READ", Rig.READ, 0, 0, 1008);
        rig.dueAccess("none lacks for a FETCH", Rig.FETCH, 16, 0, 1009);
        rig.dueAccess("nor for a WRITE where it is DIRTY", Rig.WRITE, 17, 5, 0);
        Check.due("no page of tables is DIRTY", rig.host.harvest(0), 1);
        Check.due("but page 9", rig.host.dirty(0), 9);
        rig.dueAccess("DIRTY lacks", Rig.WRITE, 1, 5, E);
        rig.dueExit("DIRTY lacks", Rig.DENIED, 32, 1, 1, 1);
        rig.host.deny(0, 2, 0);
        rig.dueAccess("it is written", Rig.WRITE, 1, 5, 0);
        Check.due("the LEAF", rig.host.peek(0, 32), Rig.to(8, ALL | Rig.ACC | Rig.DTY));
        Check.due("the LEAF's page is DIRTY", rig.host.entry(0, 2) & 24, 24);
        Check.due("the first's is not", rig.host.entry(0, 1) & 24, 8);
    }

    private static void placesInTurn() {
        Check.sentence("Then the next LOOK-ASIDE place (0 .. 7 in turn, 0 again, whatever is empty) tells this:");
        int[] leaves = new int[16];
        for (int i = 0; i < 16; i++) {
            leaves[i] = Rig.to(4 + i, ALL);
        }
        Rig rig = paged(ALL, leaves);
        for (int page = 0; page < 8; page++) {
            rig.access(Rig.READ, page * 16, 0);
            Check.due("place " + page, rig.host.aside(0, page, 0), page);
        }
        rig.access(Rig.READ, 8 * 16, 0);
        Check.due("0 again", rig.host.aside(0, 0, 0), 8);
        Check.due("flush place 6", rig.host.flush(0, 2, 6 * 16), 1);
        rig.access(Rig.READ, 9 * 16, 0);
        Check.due("1, though 6 is empty", rig.host.aside(0, 1, 0), 9);
        dueEmpty(rig, 6);
        Check.due("flush all", rig.host.flush(0, 0, 0), 7);
        rig.access(Rig.READ, 10 * 16, 0);
        Check.due("2, though all are empty", rig.host.aside(0, 2, 0), 10);
        dueEmpty(rig, 0);
        rig.access(Rig.READ, 10 * 16, 0);
        dueEmpty(rig, 3);
        rig.access(Rig.WRITE, 10 * 16, 0);
        dueEmpty(rig, 2);
        Check.due("3, though 2 has just become empty", rig.host.aside(0, 3, 0), 10);
    }

    private static void placesAreNotToldInVain() {
        Check.sentence("Then the next LOOK-ASIDE place (0 .. 7 in turn, 0 again, whatever is empty) tells this:");
        Rig rig = paged(ALL, Rig.to(8, ALL), 0, Rig.to(9, Rig.P));
        rig.dueAccess("a FAULT", Rig.READ, 16, 0, F);
        rig.set(Rig.MODE, 1);
        rig.dueAccess("a FAULT", Rig.READ, 32, 0, F);
        rig.host.deny(0, 2, 1);
        rig.dueAccess("an EXIT in the WALK", Rig.READ, 0, 0, E);
        rig.host.deny(0, 2, 0);
        dueEmpty(rig, 0);
        rig.dueAccess("let", Rig.READ, 0, 0, 1008);
        rig.duePlace("the first place", 0, 0, 8, 3, 0);
    }

    private static void placeTellsLeaf() {
        Check.sentence("page (page / 16 if LARGE), ASID, the LEAF's GLOBAL and DIRTY, what is let (WRITE, USER both; "
            + "NOT EXECUTE one), the guest's page (for LARGE the LEAF's).");
        int[] first = {ALL, ALL | Rig.NX, Rig.P | Rig.W, Rig.P | Rig.U, ALL | Rig.GLOBAL | Rig.DTY};
        int[] leaf = {ALL | Rig.NX, ALL, ALL, ALL | Rig.GLOBAL, ALL};
        int[] want = {1 + 2 + 4, 1 + 2 + 4, 1, 2 + 16, 1 + 2};
        for (int i = 0; i < first.length; i++) {
            Rig rig = paged(first[i], Rig.to(8, leaf[i]));
            rig.set(Rig.ASID, i % 4);
            rig.dueAccess("case " + i, Rig.READ, 0, 0, 1008);
            rig.duePlace("case " + i, 0, 0, 8, want[i], i % 4);
        }
        Rig rig = paged(ALL, Rig.to(8, ALL | Rig.DTY));
        rig.dueAccess("DIRTY already", Rig.READ, 0, 0, 1008);
        rig.duePlace("DIRTY already", 0, 0, 8, 1 + 2 + 8, 0);
        rig = new Rig(64);
        rig.write(60, 0, 0, 0, Rig.to(48, 255 - Rig.ACC - Rig.DTY));
        rig.set(Rig.ROOT, 3);
        rig.set(Rig.BITS, 1);
        rig.set(Rig.ASID, 3);
        rig.dueAccess("LARGE", Rig.WRITE, 4095, 1, 0);
        rig.duePlace("LARGE", 0, 240, 48, 63, 3);
    }

    private static void pageIsReachedLast() {
        Check.sentence("Then the guest's page is REACHED for what is done, and the word read or written.");
        Rig rig = paged(ALL, Rig.to(50, ALL), Rig.to(51, ALL), Rig.to(52, ALL), Rig.to(64, ALL));
        for (int kind = 0; kind < 3; kind++) {
            rig.host.deny(0, 50 + kind, 1 << kind);
            rig.dueAccess("DENIED", kind, kind * 16 + 3, 5, E);
            rig.dueExit("DENIED", Rig.DENIED, (50 + kind) * 16 + 3, kind * 16 + 3, kind, 0);
            Check.due("its place is told", rig.host.aside(0, kind, 1), 50 + kind);
            Check.due("not HERE", rig.host.entry(0, 50 + kind), 1 << kind);
        }
        rig.dueAccess("no memory", Rig.WRITE, 48, 5, E);
        rig.dueExit("no memory", Rig.NOTHING, 64 * 16, 48, 1, 0);
        rig.duePlace("its place is told", 3, 3, 64, 1 + 2 + 8, 0);
        rig.dueAccess("by the place", Rig.READ, 49, 5, E);
        rig.dueExit("by the place", Rig.NOTHING, 64 * 16 + 1, 49, 0, 0);
        rig.host.deny(0, 50, 0);
        rig.dueAccess("what the host lets binds at once", Rig.READ, 3, 0, 0);
        NestedPager host = Hosts.withSlots(0);
        host.poke(1, 16, Rig.to(2, ALL), 0, 0, 0);
        host.poke(1, 32, Rig.to(60, ALL), 0, 0, 0);
        host.set(1, Rig.ROOT, 1);
        host.set(1, Rig.BITS, 1);
        Check.due("NOROOM", host.access(1, 1, 9, 5), E);
        int[] want = {Rig.NOROOM, 60 * 16 + 9, 9, 1, 0};
        for (int what = 0; what < 5; what++) {
            Check.due("exit(" + what + ")", host.exit(1, what), want[what]);
        }
        Check.due("its place is told", host.aside(1, 0, 1), 60);
    }

    private static void codesOfFaults() {
        Check.sentence("A FAULT has a CODE (of programs 32, 64 alone): 1 (not for one that is not PRESENT; for one "
            + "with 8, too), 2 for a WRITE, 4 in user MODE, 8, 16 for a FETCH, together.");
        int[] ofKind = {0, 2, 16};
        for (int kind = 0; kind < 3; kind++) {
            for (int mode = 0; mode < 2; mode++) {
                Rig rig = paged(ALL, 0, Rig.to(8, Rig.P | Rig.NX));
                rig.set(Rig.BITS, 3);
                rig.set(Rig.MODE, mode);
                int code = ofKind[kind] + 4 * mode;
                rig.dueAccess("LEAF not PRESENT", kind, 15, 0, F);
                rig.dueFault("LEAF not PRESENT", code, 15);
                rig.dueAccess("first not PRESENT", kind, 4095, 0, F);
                rig.dueFault("first not PRESENT", code, 4095);
                boolean let = mode == 0 && kind == Rig.READ;
                rig.dueAccess("not LET", kind, 16, 0, let ? 1008 : F);
                rig.dueFault("not LET", let ? code : code + 1, let ? 4095 : 16);
            }
        }
        for (int mode = 0; mode < 2; mode++) {
            Rig rig = new Rig(16);
            rig.write(0, Rig.trap(4095), Rig.op(15, 7));
            rig.set(Rig.MODE, mode);
            rig.dueRun("64", 1, 0);
            rig.dueFault("64 alone", 64, 4095);
            rig.set(Rig.PC, 1);
            rig.dueRun("32", 1, 0);
            rig.dueFault("32 alone", 32, 1);
        }
    }

    private static void lastFault() {
        Check.sentence("It is the VCPU's last FAULT, with the address.");
        Rig rig = paged(ALL, 0, Rig.to(8, ALL));
        rig.dueAccess("a FAULT", Rig.WRITE, 7, 0, F);
        rig.dueAccess("no FAULT", Rig.READ, 16, 0, 1008);
        rig.dueFault("the first stays", 2, 7);
        rig.host.deny(0, 8, 1);
        rig.dueAccess("an EXIT", Rig.READ, 16, 0, E);
        rig.dueFault("it stays with an EXIT", 2, 7);
        rig.dueAccess("another FAULT", Rig.FETCH, 0x200, 0, F);
        rig.dueFault("the last", 16, 0x200);
        rig.dueReg("no ECODE", Rig.ECODE, 0);
        rig.dueReg("no EVA", Rig.EVA, 0);
        int second = rig.host.vcpu(0);
        Check.due("of each VCPU", rig.host.get(second, Rig.FAULT_CODE), 0);
    }

    private static void exitsTellAll() {
        Check.sentence("An EXIT has a reason: 1 NOTHING, 2 DENIED, 3 GIVEN, 4 NOROOM, 5 DEVICE, 6 FAULTED; the guest's "
            + "page times 16 and the word (of what was REACHED), the address of the ACCESS, its kind (0 .. 2), "
            + "whether it was in a WALK (its READS and WRITES).");
        Rig rig = paged(ALL, Rig.to(64, ALL), Rig.to(8, ALL), Rig.to(9, ALL), Rig.to(241, ALL));
        rig.dueExit("none yet", 0, 0, 0, 0, 0);
        rig.dueAccess("NOTHING", Rig.READ, 15, 0, E);
        rig.dueExit("NOTHING", Rig.NOTHING, 64 * 16 + 15, 15, 0, 0);
        rig.host.deny(0, 8, 2);
        rig.dueAccess("DENIED", Rig.WRITE, 16, 0, E);
        rig.dueExit("DENIED", Rig.DENIED, 8 * 16, 16, 1, 0);
        rig.set(Rig.BITS, 0);
        Hosts.give(rig, 9);
        rig.set(Rig.BITS, 1);
        rig.dueAccess("GIVEN", Rig.FETCH, 33, 0, E);
        rig.dueExit("GIVEN", Rig.GIVEN, 9 * 16 + 1, 33, 2, 0);
        rig.dueAccess("DEVICE", Rig.FETCH, 50, 0, E);
        rig.dueExit("DEVICE", Rig.DEVICE, 241 * 16 + 2, 50, 2, 0);
        rig.set(Rig.PC, 0x3FF);
        rig.dueRun("FAULTED", 1, 0);
        rig.dueExit("FAULTED", Rig.FAULTED, 0, 0x3FF, 0, 0);
        rig.dueAccess("a FAULT of access()", Rig.READ, 0x400, 0, F);
        rig.dueExit("is no EXIT", Rig.FAULTED, 0, 0x3FF, 0, 0);
        rig.dueAccess("what is let", Rig.READ, 17, 0, 0);
        rig.dueExit("is none either", Rig.FAULTED, 0, 0x3FF, 0, 0);
    }

    private static void exitsInWalks() {
        Check.sentence("whether it was in a WALK (its READS and WRITES).");
        for (int kind = 0; kind < 3; kind++) {
            NestedPager host = Hosts.withSlots(0);
            host.poke(1, 16, Rig.to(60, ALL), 0, 0, 0);
            host.set(1, Rig.BITS, 1);
            host.set(1, Rig.ROOT, 61);
            Check.due("no room for ROOT", host.access(1, kind, 0x5AB, 0), E);
            dueExit(host, Rig.NOROOM, 61 * 16 + 5, 0x5AB, kind);
            host.set(1, Rig.ROOT, 1);
            Check.due("no room for the table", host.access(1, kind, 0x0AB, 0), E);
            dueExit(host, Rig.NOROOM, 60 * 16 + 10, 0x0AB, kind);
        }
        Rig rig = paged(ALL, Rig.to(8, ALL));
        rig.host.deny(0, 2, 2);
        rig.dueAccess("a WRITE of a WALK", Rig.READ, 5, 0, E);
        rig.dueExit("a WRITE of a WALK", Rig.DENIED, 32, 5, 0, 1);
        rig.host.deny(0, 2, 1);
        rig.dueAccess("a READ of a WALK", Rig.WRITE, 0x0F5, 0, E);
        rig.dueExit("a READ of a WALK", Rig.DENIED, 47, 0x0F5, 1, 1);
    }

    private static void dueExit(NestedPager host, int reason, int guestAddress, int address, int kind) {
        int[] want = {reason, guestAddress, address, kind, 1};
        for (int what = 0; what < 5; what++) {
            Check.due("exit(" + what + ")", host.exit(1, what), want[what]);
        }
    }

    private static void devicesAreNoTables() {
        Check.sentence("DEVICES: a FETCH from one, and one REACHED in a WALK, is an EXIT DEVICE.");
        for (int page = 240; page < 244; page++) {
            Rig rig = paged(ALL, Rig.to(page, ALL));
            rig.dueAccess("a FETCH", Rig.FETCH, 4, 0, E);
            rig.dueExit("a FETCH", Rig.DEVICE, page * 16 + 4, 4, 2, 0);
            rig.dueAccess("a READ is none", Rig.READ, 6, 0, 0);
            rig.dueAccess("a WRITE is none", Rig.WRITE, 6, 0, 0);
            rig.dueExit("the last EXIT", Rig.DEVICE, page * 16 + 4, 4, 2, 0);
            rig.write(16, Rig.to(page, ALL));
            rig.host.flush(0, 0, 0);
            rig.dueAccess("a table", Rig.READ, 0x04F, 0, E);
            rig.dueExit("a table", Rig.DEVICE, page * 16 + 4, 0x04F, 0, 1);
            rig.set(Rig.ROOT, page);
            rig.dueAccess("ROOT", Rig.WRITE, 0x400, 0, E);
            rig.dueExit("ROOT", Rig.DEVICE, page * 16 + 4, 0x400, 1, 1);
            Check.due("no MAIL went", rig.host.count(0, 10), 0);
        }
    }

    /** Places 0 (ASID 0), 1 (ASID 0, GLOBAL), 2 (ASID 1), 3 (ASID 1, LARGE, for pages 32 .. 47). */
    private static Rig fourPlaces() {
        Rig rig = paged(ALL, Rig.to(8, ALL), Rig.to(9, ALL | Rig.GLOBAL));
        rig.write(16, Rig.to(2, ALL), Rig.to(3, ALL), Rig.to(48, ALL | Rig.LARGE));
        rig.dueAccess("place 0", Rig.READ, 0, 0, 1008);
        rig.dueAccess("place 1", Rig.READ, 16, 0, 1009);
        rig.set(Rig.ASID, 1);
        rig.dueAccess("place 2", Rig.READ, 0, 0, 1008);
        rig.dueAccess("place 3", Rig.READ, 0x2F0, 0, 0);
        return rig;
    }

    private static void dueFull(Rig rig, boolean... full) {
        for (int i = 0; i < full.length; i++) {
            Check.holds("place " + i + (full[i] ? " stays" : " is empty"),
                (rig.host.aside(0, i, 0) != -1) == full[i]);
        }
    }

    private static void flushAll() {
        Check.sentence("FLUSHES empty places of a VCPU: 0 all;");
        Rig rig = fourPlaces();
        dueFull(rig, true, true, true, true, false);
        Check.due("all", rig.host.flush(0, 0, 4095), 4);
        dueFull(rig, false, false, false, false, false);
        Check.due("none is left", rig.host.flush(0, 0, 0), 0);
    }

    private static void flushOwn() {
        Check.sentence("1 those of its ASID that are not GLOBAL;");
        Rig rig = fourPlaces();
        Check.due("of ASID 1", rig.host.flush(0, 1, 4095), 2);
        dueFull(rig, true, true, false, false);
        rig.set(Rig.ASID, 2);
        Check.due("of ASID 2", rig.host.flush(0, 1, 0), 0);
        rig.set(Rig.ASID, 0);
        Check.due("of ASID 0", rig.host.flush(0, 1, 0), 1);
        dueFull(rig, false, true, false, false);
        Check.due("GLOBAL stays", rig.host.flush(0, 1, 16), 0);
    }

    private static void flushFitting() {
        Check.sentence("2 those that fit an address (with its ASID).");
        Rig rig = fourPlaces();
        Check.due("the last word before LARGE", rig.host.flush(0, 2, 0x1FF), 0);
        Check.due("the first word behind LARGE", rig.host.flush(0, 2, 0x300), 0);
        Check.due("the last word of LARGE", rig.host.flush(0, 2, 0x2FF), 1);
        dueFull(rig, true, true, true, false);
        Check.due("GLOBAL of another ASID", rig.host.flush(0, 2, 31), 1);
        dueFull(rig, true, false, true, false);
        Check.due("its own, not another's", rig.host.flush(0, 2, 15), 1);
        dueFull(rig, true, false, false, false);
        Check.due("of the other ASID", rig.host.flush(0, 2, 0), 0);
        rig = twoPlaces();
        Check.due("two that fit", rig.host.flush(0, 2, 8), 2);
        rig = fourPlaces();
        Check.due("the first word of LARGE", rig.host.flush(0, 2, 0x200), 1);
    }
}
