/** NEW FRAMES when none is FREE: THE HAND, SLOTS, NOROOM and ROOM (Terms, promises 7, 12, 19, 23, 25). */
final class ReclaimTest {
    private ReclaimTest() {
    }

    public static void main(String[] args) {
        handTakesFirstUnaccessed();
        handClearsAccessedAndComesAround();
        tableAndPageTakeTwo();
        pagesOfOthersAreTaken();
        tableStaysWithoutRoomForPage();
        swappedPageNeedsSlotToo();
        denyWithoutRoom();
        giveWithoutRoom();
        walkSurvivesReclaiming();
        Check.end();
    }

    /** Guest 0 with root, 8 tables and pages 0 .. n - 1 HERE by poke(), none ACCESSED; frame 2 + k has page k < 16. */
    private static Rig full() {
        Rig rig = new Rig(128);
        for (int page = 0; page < 119; page++) {
            rig.write(page * 16, page + 1000);
        }
        Check.due("FREE frames", rig.host.host(0), 0);
        return rig;
    }

    private static void handTakesFirstUnaccessed() {
        Rig rig = full();
        NestedPager host = rig.host;
        Check.due("page 0 is in frame 2", host.owner(2, 2), 0);
        rig.dueAccess("page 0 gets ACCESSED", Rig.READ, 0, 0, 1000);
        rig.dueAccess("page 119", Rig.WRITE, 119 * 16 + 1, 5, 0);
        Check.due("page 0 loses ACCESSED", host.entry(0, 0), 2 * 256 + 32 + 16);
        Check.due("page 1 is SWAPPED", host.entry(0, 1), 64 + 16);
        Check.due("its frame has page 119", host.entry(0, 119), 3 * 256 + 32 + 16 + 8);
        Check.due("owner", host.owner(3, 2), 119);
        Check.due("its words are 0", host.frame(3, 0), 0);
        Check.due("but for the one written", host.frame(3, 1), 5);
        Check.due("page 1's word is in the SLOT", host.peek(0, 16), 1001);
        Check.due("THE HAND is behind", host.host(2), 4);
        Check.due("free SLOTS", host.host(1), 63);
        Check.due("RECLAIMED", host.count(0, 7), 1);
        Check.due("DEMANDS", host.count(0, 5), 120);
        rig.dueAccess("page 1 again", Rig.READ, 16, 0, 1001);
        Check.due("by frame 4", host.entry(0, 1), 4 * 256 + 32 + 16 + 8);
        Check.due("page 2 went into the least SLOT left", host.entry(0, 2), 256 + 64 + 16);
        Check.due("SWAPINS", host.count(0, 6), 1);
        Check.due("free SLOTS", host.host(1), 63);
        Check.due("THE HAND", host.host(2), 5);
    }

    private static void handClearsAccessedAndComesAround() {
        Rig rig = full();
        NestedPager host = rig.host;
        for (int page = 0; page < 119; page++) {
            rig.dueAccess("ACCESSED", Rig.READ, page * 16, 0, page + 1000);
        }
        host.deny(0, 0, 4);
        rig.dueAccess("page 120", Rig.READ, 120 * 16, 0, 0);
        Check.due("page 0 went at the second time around", host.entry(0, 0), 64 + 16 + 4);
        Check.due("THE HAND", host.host(2), 3);
        for (int page = 1; page < 119; page++) {
            Check.due("ACCESSED is lost", host.entry(0, page) & 255, 32 + 16);
        }
        rig.dueAccess("page 121", Rig.READ, 121 * 16, 0, 0);
        Check.due("page 1 is next", host.entry(0, 1), 256 + 64 + 16);
        // The hand goes on to the last frame, and 0 is behind 127.
        for (int i = 0; i < 55; i++) {
            rig.dueAccess("two in turn", Rig.READ, (i % 2) * 16, 0, 1000 + i % 2);
        }
        Check.due("FREE frames", host.host(0), 0);
    }

    private static void tableAndPageTakeTwo() {
        NestedPager host = new NestedPager();
        host.guest(112);
        host.guest(128);
        int vcpu = host.vcpu(1);
        for (int page = 0; page < 112; page++) {
            host.poke(0, page * 16, page, 0, 0, 0);
        }
        // two roots, 7 tables, 112 pages: 7 are left
        for (int page = 0; page < 6; page++) {
            host.poke(1, page * 16, page, 0, 0, 0);
        }
        Check.due("FREE frames", host.host(0), 0);
        Check.due("page 16 of guest 1", host.access(vcpu, 1, 16 * 16, 77), 0);
        Check.due("RECLAIMED from guest 0", host.count(0, 7), 2);
        Check.due("none from guest 1", host.count(1, 7), 0);
        Check.due("the TABLE came first", host.owner(3, 0), 1);
        Check.due("of pages 16 and on", host.owner(3, 2), 16);
        Check.due("of guest 1", host.owner(3, 1), 1);
        Check.due("then the page", host.entry(1, 16), 4 * 256 + 32 + 16 + 8);
        Check.due("page 0 of guest 0", host.entry(0, 0), 64 + 16);
        Check.due("page 1 of guest 0", host.entry(0, 1), 256 + 64 + 16);
        Check.due("frame 3's words are 0 but for the ENTRY", host.frame(3, 1), 0);
    }

    private static void pagesOfOthersAreTaken() {
        Rig rig = full();
        NestedPager host = rig.host;
        host.swap(0, 118);
        Check.due("another guest", host.guest(2), 1);
        int other = host.vcpu(1);
        Check.due("its page", host.access(other, 1, 3, 8), 0);
        Check.due("RECLAIMED from guest 0", host.count(0, 7), 2);
        Check.due("none of its own", host.count(1, 7), 0);
        Check.due("destroy", host.destroy(1), 3);
        Check.due("FREE frames", host.host(0), 3);
        rig.dueAccess("the words are there still", Rig.READ, 16, 0, 1001);
    }

    private static void tableStaysWithoutRoomForPage() {
        NestedPager host = almostFull(1);
        int hand = host.host(2);
        int reclaimed = host.count(0, 7);
        Check.due("page 112", host.access(0, 1, 112 * 16, 1), NestedPager.EXIT);
        Check.due("NOROOM", host.exit(0, 0), Rig.NOROOM);
        Check.due("of page 112", host.exit(0, 1), 112 * 16);
        Check.due("a page was RECLAIMED", host.count(0, 7), reclaimed + 1);
        Check.holds("THE HAND went on", host.host(2) != hand);
        Check.due("no SLOT is left", host.host(1), 0);
        int table = host.frame(0, 7) / 256;
        Check.due("the TABLE came", host.owner(table, 0), 1);
        Check.due("of pages 112 and on", host.owner(table, 2), 112);
        Check.due("the ENTRY is 0", host.entry(0, 112), 0);
        hand = host.host(2);
        Check.due("again", host.access(0, 0, 112 * 16, 0), NestedPager.EXIT);
        Check.due("without a TABLE", host.access(0, 0, 127 * 16, 0), NestedPager.EXIT);
        Check.due("poke", host.poke(0, 112 * 16, 1, 1, 1, 1), Rig.NOROOM);
        Check.due("THE HAND is where it was", host.host(2), hand);
        Check.due("no DEMAND", host.count(0, 5), host.count(0, 2) + host.count(0, 3));
    }

    private static void swappedPageNeedsSlotToo() {
        NestedPager host = almostFull(0);
        int swapped = 0;
        while (host.entry(0, swapped) % 128 / 32 != 2) {
            swapped++;
        }
        Check.due("a SWAPPED page", host.access(0, 0, swapped * 16, 0), NestedPager.EXIT);
        Check.due("NOROOM", host.exit(0, 0), Rig.NOROOM);
        Check.due("no SWAPIN", host.count(0, 6), 0);
        int here = 0;
        while (host.entry(0, here) % 128 / 32 != 1) {
            here++;
        }
        Check.due("a page HERE is reached", host.access(0, 0, here * 16, 0), 7);
    }

    private static void denyWithoutRoom() {
        NestedPager host = almostFull(0);
        Check.due("deny without room for the TABLE", host.deny(0, 112, 1), NestedPager.ROOM);
        Check.due("nothing is DENIED", host.entry(0, 112), 0);
        Check.due("none is needed for 0", host.deny(0, 112, 0), 0);
        Check.due("none is needed where one is", host.deny(0, 111, 5), 0);
        Check.due("it binds", host.entry(0, 111) & 7, 5);
        host = almostFull(1);
        int before = host.count(0, 7);
        Check.due("deny RECLAIMS for it", host.deny(0, 112, 1), 0);
        Check.due("one", host.count(0, 7), before + 1);
        Check.due("the ENTRY", host.entry(0, 112), 1);
    }

    private static void giveWithoutRoom() {
        NestedPager host = almostFull(0);
        int here = 0;
        while (host.entry(0, here) % 128 / 32 != 1) {
            here++;
        }
        host.poke(0, here * 16, Rig.call(1), Rig.call(1), 0, 0);
        host.set(0, Rig.PC, here * 16);
        host.set(0, Rig.A, 112);
        Check.due("give without room for the TABLE", host.run(0, 1), 1);
        Check.due("A", host.get(0, Rig.A), 65534);
        host.set(0, Rig.A, 128);
        Check.due("give what is no memory", host.run(0, 1), 1);
        Check.due("A", host.get(0, Rig.A), 65535);
    }

    /** Guest 0 has VCPU 0, pages up to 111 used, no frame FREE, and so many SLOTS free. */
    private static NestedPager almostFull(int left) {
        NestedPager host = new NestedPager();
        host.guest(128);
        host.guest(128);
        host.vcpu(0);
        for (int page = 0; page < 112; page++) {
            Check.due("poke", host.poke(0, page * 16, 7, 0, 0, 0), 0);
        }
        // 2 roots, 7 tables, 112 pages: 7 frames are left for guest 1
        for (int page = 0; host.host(0) > 0; page++) {
            Check.due("poke", host.poke(1, page * 16, 7, 0, 0, 0), 0);
        }
        for (int page = 0; host.host(1) > left; page++) {
            if (host.entry(1, page) == 0) {
                Check.due("poke", host.poke(1, page * 16, 7, 0, 0, 0), 0);
            }
        }
        Check.due("FREE frames", host.host(0), 0);
        Check.due("free SLOTS", host.host(1), left);
        return host;
    }

    private static void walkSurvivesReclaiming() {
        Rig rig = full();
        NestedPager host = rig.host;
        // The root table of the guest is page 0 (frame 2), the leaf table page 119 is FRESH, so it faults,
        // and reaching it must not lose what the first reach read.
        rig.write(0, Rig.to(1, 7), 0, 0, 0);
        rig.write(16, Rig.to(50, 7), 0, 0, 0);
        host.swap(0, 1);
        rig.set(Rig.BITS, 1);
        Check.due("one frame is FREE", host.host(0), 1);
        host.poke(0, 119 * 16, 0, 0, 0, 0);
        Check.due("none is", host.host(0), 0);
        // Page 0 is ACCESSED by the walk, and page 2's frame goes for page 1.
        rig.dueAccess("by a SWAPPED table", Rig.WRITE, 4, 99, 0);
        Check.due("the word", host.peek(0, 50 * 16 + 4), 99);
        Check.due("the first entry", host.peek(0, 0), Rig.to(1, 7 | Rig.ACC));
        Check.due("the LEAF", host.peek(0, 16), Rig.to(50, 7 | Rig.ACC | Rig.DTY));
        Check.due("one RECLAIMED", host.count(0, 7), 1);
        rootReclaimedByItsOwnWalk();
    }

    /** All pages are ACCESSED, so that reaching the leaf table takes the frame of the root's page, met first. */
    private static void rootReclaimedByItsOwnWalk() {
        Rig rig = full();
        NestedPager host = rig.host;
        rig.write(0, Rig.to(1, 7), 0, 0, 0);
        rig.write(16, Rig.to(50, 7), 0, 0, 0);
        for (int page = 0; page < 119; page++) {
            rig.access(Rig.READ, page * 16, 0);
        }
        host.swap(0, 1);
        rig.dueAccess("the frame is taken", Rig.READ, 119 * 16, 0, 0);
        rig.set(Rig.BITS, 1);
        rig.dueAccess("a walk", Rig.READ, 4, 0, 0);
        // Page 0 went for page 1, and came back to get ACCESSED, for which the next frame went.
        Check.due("two RECLAIMED", host.count(0, 7), 2);
        Check.due("two SWAPINS", host.count(0, 6), 2);
        Check.due("the first entry", host.peek(0, 0), Rig.to(1, 7 | Rig.ACC));
        Check.due("the LEAF", host.peek(0, 16), Rig.to(50, 7 | Rig.ACC));
        Check.due("page 0 is HERE", host.entry(0, 0) & 127, 32 + 16 + 8);
    }
}
