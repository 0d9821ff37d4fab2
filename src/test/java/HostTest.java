import java.util.List;

/** Guests and what the host does with their pages: promises 1 to 4, 12 to 23 and 25. */
final class HostTest {
    private HostTest() {
    }

    public static void main(String[] args) {
        newObject();
        guestNumbers();
        rootTableNeedsFreeFrame();
        destroyFreesAll();
        countsBeginAnew();
        vcpuNumbers();
        newVcpu();
        tablesComeWhenNeeded();
        denying();
        swapping();
        swapNeedsSlot();
        moving();
        moveLeavesOthersAlone();
        moveNeedsFrame();
        targets();
        harvesting();
        poking();
        peeking();
        counting();
        Check.end();
    }

    private static void newObject() {
        NestedPager host = new NestedPager();
        int[] want = {128, 64, 0, 0, 0};
        for (int what = 0; what < 5; what++) {
            Check.due("new host(" + what + ")", host.host(what), want[what]);
        }
        for (int frame = 0; frame < 128; frame++) {
            dueOwner(host, frame, 0, -1, -1);
            dueZeros(host, frame);
        }
        Check.due("dirty(0) without a harvest", host.dirty(0), -1);
    }

    private static void guestNumbers() {
        NestedPager host = new NestedPager();
        int[] ram = {1, 128, 16, 17};
        for (int g = 0; g < 4; g++) {
            Check.due("guest", host.guest(ram[g]), g);
            Check.due("RAM", host.count(g, 0), ram[g]);
            Check.due("TARGET", host.count(g, 1), 0);
            dueOwner(host, g, 1, g, 256);
            dueZeros(host, g);
        }
        Check.due("a fifth guest", host.guest(1), NestedPager.ROOM);
        Check.due("guests", host.host(3), 4);
        Check.due("destroy(2)", host.destroy(2), 1);
        Check.due("destroy(1)", host.destroy(1), 1);
        Check.due("guests", host.host(3), 2);
        Check.badState("destroy(1) again", () -> host.destroy(1));
        Check.due("the least free", host.guest(5), 1);
        Check.due("then the next", host.guest(6), 2);
        dueOwner(host, 1, 1, 1, 256);
        dueOwner(host, 2, 1, 2, 256);
    }

    private static void rootTableNeedsFreeFrame() {
        NestedPager host = new NestedPager();
        host.guest(128);
        fill(host, 0, 119);
        Check.due("no frame is FREE", host.host(0), 0);
        List<Integer> before = Snapshot.of(host);
        Check.due("guest without a FREE frame", host.guest(1), NestedPager.ROOM);
        Check.holds("nothing is RECLAIMED for it", before.equals(Snapshot.of(host)));
        host.swap(0, 7);
        Check.due("guest with one", host.guest(1), 1);
        Check.due("its frame is gone", host.host(0), 0);
    }

    /** Pages 0 .. n - 1 are HERE, not ACCESSED: with tables and root that takes more than n frames. */
    private static void fill(NestedPager host, int guest, int n) {
        for (int page = 0; page < n; page++) {
            Check.due("poke of page " + page, host.poke(guest, page * 16, page + 1, 0, 0, 0), 0);
        }
    }

    private static void destroyFreesAll() {
        NestedPager host = new NestedPager();
        host.guest(40);
        host.guest(40);
        host.vcpu(1);
        host.vcpu(0);
        host.vcpu(1);
        host.poke(1, 0, 1, 2, 3, 4);
        host.poke(1, 20 * 16, 5, 6, 7, 8);
        host.poke(0, 32, 9, 9, 9, 9);
        host.swap(1, 20);
        host.access(0, 1, Rig.CONSOLE, 65);
        host.access(0, 1, Rig.POST + 1, 5);
        host.access(0, 1, Rig.POST, 6);
        host.access(0, 1, 16, 1234);
        host.access(0, 1, Rig.DISK, 3);
        host.access(0, 1, Rig.DISK + 1, 1);
        host.access(0, 1, Rig.DISK + 2, 2);
        host.access(0, 1, Rig.CLOCK + 1, 9);
        host.target(1, 4);
        host.harvest(1);
        // root, two tables, pages 0 and 1; page 20 is in a slot
        Check.due("destroy(1)", host.destroy(1), 5);
        Check.due("free SLOTS", host.host(1), 64);
        Check.due("FREE frames", host.host(0), 128 - 3);
        Check.due("VCPUS", host.host(4), 1);
        Check.badState("VCPU 0 went", () -> host.get(0, 0));
        Check.badState("VCPU 2 went", () -> host.get(2, 0));
        Check.due("VCPU 1 stays", host.get(1, 16), 0);
        Check.due("what was harvested stays", host.dirty(0), 0);
        Check.due("MAIL sent stays", host.count(0, 10), 1);
        for (int frame = 0; frame < 128; frame++) {
            if (host.owner(frame, 0) == 0) {
                dueZeros(host, frame);
            }
        }
        Check.due("its number again", host.guest(30), 1);
        int[] want = {30, 0, 0, 0, 0, 0, 0, 0, 0, 0, 0, 0};
        for (int what = 0; what < 12; what++) {
            Check.due("new count(" + what + ")", host.count(1, what), want[what]);
        }
        Check.due("printed anew", host.printed(1, 0), -1);
        Check.due("vcpu", host.vcpu(1), 0);
        Check.due("no ALARM", host.access(0, 0, Rig.CLOCK + 1, 0), 0);
        Check.due("no sector", host.access(0, 0, Rig.DISK, 0), 0);
        Check.due("no page", host.access(0, 0, Rig.DISK + 1, 0), 0);
        host.access(0, 1, Rig.DISK, 3);
        host.access(0, 1, Rig.DISK + 2, 1);
        Check.due("the DISK is 0", host.peek(1, 0), 0);
    }

    private static void countsBeginAnew() {
        NestedPager host = new NestedPager();
        host.guest(128);
        host.vcpu(0);
        fill(host, 0, 119);
        host.access(0, 0, 120 * 16, 0);
        host.swap(0, 118);
        host.access(0, 0, 118 * 16, 0);
        host.access(0, 1, Rig.DISK + 1, 200);
        host.access(0, 1, Rig.DISK + 2, 1);
        Check.due("RECLAIMED", host.count(0, 7), 1);
        Check.due("SWAPINS", host.count(0, 6), 1);
        Check.due("the DISK's reason", host.access(0, 0, Rig.DISK + 3, 0), 1);
        host.access(0, 1, Rig.DISK + 1, 5);
        host.access(0, 1, Rig.DISK + 2, 2);
        host.access(0, 1, Rig.DISK + 1, 200);
        host.access(0, 1, Rig.DISK + 2, 2);
        Check.holds("page 0 is SWAPPED", host.entry(0, 0) / 32 % 4 == 2);
        Check.due("destroy", host.destroy(0), 128);
        Check.due("free SLOTS", host.host(1), 64);
        Check.due("guest", host.guest(9), 0);
        for (int what = 1; what < 12; what++) {
            Check.due("count(" + what + ")", host.count(0, what), 0);
        }
        host.vcpu(0);
        Check.due("the DISK's reason", host.access(0, 0, Rig.DISK + 3, 0), 0);
        host.access(0, 1, Rig.DISK + 1, 5);
        host.access(0, 1, Rig.DISK + 2, 1);
        Check.due("the DISK's first word", host.peek(0, 5 * 16), 0);
    }

    private static void vcpuNumbers() {
        NestedPager host = new NestedPager();
        host.guest(1);
        host.guest(1);
        for (int i = 0; i < 8; i++) {
            Check.due("vcpu", host.vcpu(i % 2), i);
            Check.due("its guest", host.get(i, 16), i % 2);
        }
        Check.due("a ninth", host.vcpu(0), NestedPager.ROOM);
        Check.due("VCPUS", host.host(4), 8);
        Check.due("of guest 1", host.count(1, 11), 4);
        Check.badState("no guest 2", () -> host.vcpu(2));
        host.destroy(0);
        Check.due("VCPUS", host.host(4), 4);
        Check.due("the least free", host.vcpu(1), 0);
        Check.due("the next", host.vcpu(1), 2);
        Check.due("of guest 1", host.count(1, 11), 6);
    }

    private static void newVcpu() {
        NestedPager host = new NestedPager();
        host.guest(10);
        host.guest(10);
        host.vcpu(0);
        for (int what = 0; what < 10; what++) {
            host.set(0, what, 1);
        }
        host.poke(0, 16, Rig.to(2, 7), 0, 0, 0);
        host.poke(0, 32, Rig.to(3, 7), Rig.to(3, 7), 0, 0);
        host.access(0, 0, 0, 0);
        host.access(0, 0, 16, 0);
        host.access(0, 0, 300, 0);
        host.set(0, 4, 0);
        host.access(0, 0, 3000, 0);
        host.run(0, 1);
        Check.due("a place is told", host.aside(0, 1, 0), 1);
        host.destroy(0);
        Check.due("vcpu", host.vcpu(1), 0);
        for (int what = 0; what < 19; what++) {
            Check.due("new get(" + what + ")", host.get(0, what), what == 7 ? -1 : what == 16 ? 1 : 0);
        }
        for (int what = 0; what < 5; what++) {
            Check.due("new exit(" + what + ")", host.exit(0, what), 0);
        }
        for (int i = 0; i < 8; i++) {
            Check.due("new aside(" + i + ")", host.aside(0, i, 0), -1);
        }
        host.poke(1, 0, Rig.to(2, 7), 0, 0, 0);
        host.poke(1, 32, Rig.to(3, 7), 0, 0, 0);
        host.set(0, 4, 1);
        host.access(0, 0, 0, 0);
        Check.due("place 0 is the first", host.aside(0, 0, 1), 3);
    }

    private static void tablesComeWhenNeeded() {
        Rig rig = new Rig(100);
        NestedPager host = rig.host;
        Check.due("deny 0 needs no TABLE", host.deny(0, 50, 0), 0);
        Check.due("FREE frames", host.host(0), 127);
        Check.due("deny 4 needs one", host.deny(0, 50, 4), 0);
        dueOwner(host, 1, 1, 0, 48);
        Check.due("the ROOT TABLE tells it", host.frame(0, 3), 256 + 1);
        Check.due("the ENTRY", host.frame(1, 2), 4);
        Check.due("entry()", host.entry(0, 50), 4);
        Check.due("deny 0 again", host.deny(0, 50, 0), 4);
        dueOwner(host, 1, 1, 0, 48);
        Check.due("it stays", host.frame(0, 3), 256 + 1);
        rig.dueAccess("a page in it", Rig.READ, 63 * 16, 0, 0);
        Check.due("HERE, ACCESSED in frame 2", host.entry(0, 63), 2 * 256 + 32 + 8);
        dueOwner(host, 2, 2, 0, 63);
        rig.dueAccess("the last page", Rig.WRITE, 99 * 16 + 15, 7, 0);
        dueOwner(host, 3, 1, 0, 96);
        dueOwner(host, 4, 2, 0, 99);
        Check.due("the ROOT TABLE", host.frame(0, 6), 3 * 256 + 1);
        Check.due("its ENTRY", host.frame(3, 3), 4 * 256 + 32 + 16 + 8);
        Check.due("its word", host.frame(4, 15), 7);
        Check.due("entry of none", host.entry(0, 100), 0);
        Check.due("entry of none", host.entry(0, 127), 0);
    }

    private static void denying() {
        Rig rig = new Rig(20);
        NestedPager host = rig.host;
        rig.write(0, Rig.HALT);
        int[] mask = {1, 2, 4};
        for (int kind = 0; kind < 3; kind++) {
            for (int v = 0; v < 8; v++) {
                host.deny(0, 0, v);
                boolean denied = (v & mask[kind]) != 0;
                rig.dueAccess("deny " + v, kind, 5, 0, denied ? NestedPager.EXIT : 0);
                if (denied) {
                    rig.dueExit("deny " + v, Rig.DENIED, 5, 5, kind, 0);
                }
            }
        }
        Check.due("what it was", host.deny(0, 0, 3), 7);
        Check.due("the rest of the ENTRY stays", host.entry(0, 0), 2 * 256 + 32 + 16 + 8 + 3);
        Check.badState("a page not below RAM", () -> host.deny(0, 20, 0));
        Check.badState("a page not below RAM", () -> host.deny(0, 127, 7));
        Check.badState("no guest", () -> host.deny(1, 0, 0));
        host.deny(0, 19, 7);
        rig.dueAccess("DENIED before it is FRESH", Rig.READ, 19 * 16, 0, NestedPager.EXIT);
        Check.due("no DEMAND then", host.count(0, 5), 1);
        host.swap(0, 0);
        rig.dueAccess("DENIED before it is SWAPPED", Rig.READ, 0, 0, NestedPager.EXIT);
        rig.dueExit("SWAPPED and DENIED", Rig.DENIED, 0, 0, 0, 0);
        Check.due("no SWAPIN then", host.count(0, 6), 0);
        Check.due("deny of a SWAPPED one", host.deny(0, 0, 4), 3);
        Check.due("it stays SWAPPED", host.entry(0, 0), 64 + 16 + 4);
    }

    private static void swapping() {
        Rig rig = new Rig(20);
        NestedPager host = rig.host;
        rig.write(3 * 16, 11, 12, 13, 14);
        rig.dueAccess("page 4", Rig.READ, 4 * 16, 0, 0);
        host.deny(0, 4, 6);
        Check.due("swap(4)", host.swap(0, 4), 0);
        Check.due("DENIED stays alone", host.entry(0, 4), 64 + 6);
        Check.due("swap(3)", host.swap(0, 3), 1);
        Check.due("DIRTY stays", host.entry(0, 3), 256 + 64 + 16);
        dueOwner(host, 2, 0, -1, -1);
        dueZeros(host, 2);
        Check.due("SWAPPED pages", host.count(0, 3), 2);
        Check.due("pages HERE", host.count(0, 2), 0);
        Check.due("never RECLAIMED", host.count(0, 7), 0);
        Check.badState("swap of a SWAPPED one", () -> host.swap(0, 3));
        Check.badState("swap of a FRESH one", () -> host.swap(0, 5));
        Check.badState("swap without a TABLE", () -> host.swap(0, 19));
        Check.badState("swap of none", () -> host.swap(0, 20));
        Check.badState("swap of no guest", () -> host.swap(1, 0));
        rig.dueAccess("back in", Rig.READ, 3 * 16 + 2, 0, 13);
        Check.due("HERE in frame 2, DIRTY stays", host.entry(0, 3), 2 * 256 + 32 + 16 + 8);
        Check.due("SWAPINS", host.count(0, 6), 1);
        Check.due("DEMANDS", host.count(0, 5), 2);
        Check.due("SLOT 1 is free", host.host(1), 63);
        rig.dueAccess("another", Rig.READ, 0, 0, 0);
        Check.due("the least free SLOT", host.swap(0, 0), 1);
        rig.dueAccess("SLOT 0 comes free", Rig.READ, 4 * 16, 0, 0);
        Check.due("and is the least", host.swap(0, 3), 0);
        Check.due("its word in the SLOT", host.peek(0, 3 * 16 + 3), 14);
    }

    private static void swapNeedsSlot() {
        Rig rig = new Rig(128);
        NestedPager host = rig.host;
        for (int page = 0; page < 65; page++) {
            host.poke(0, page * 16, page, 0, 0, 0);
        }
        for (int page = 0; page < 64; page++) {
            Check.due("swap", host.swap(0, page), page);
        }
        Check.due("free SLOTS", host.host(1), 0);
        List<Integer> before = Snapshot.of(host);
        Check.due("no SLOT", host.swap(0, 64), NestedPager.ROOM);
        Check.badState("IllegalState goes before ROOM", () -> host.swap(0, 63));
        Check.holds("nothing changes", before.equals(Snapshot.of(host)));
    }

    private static void moving() {
        Rig rig = new Rig(20);
        NestedPager host = rig.host;
        rig.write(2 * 16, 21, 22, 23, 24);
        rig.dueAccess("page 3", Rig.READ, 3 * 16, 0, 0);
        host.deny(0, 2, 4);
        Check.due("move(2)", host.move(0, 2), 4);
        Check.due("all else stays", host.entry(0, 2), 4 * 256 + 32 + 16 + 4);
        dueOwner(host, 2, 0, -1, -1);
        dueZeros(host, 2);
        dueOwner(host, 4, 2, 0, 2);
        Check.due("its words", host.frame(4, 3), 24);
        rig.dueAccess("binds at once", Rig.READ, 2 * 16 + 1, 0, 22);
        Check.due("move(3) into the least FREE", host.move(0, 3), 2);
        Check.due("ACCESSED stays", host.entry(0, 3), 2 * 256 + 32 + 8);
        Check.due("a moved page swaps", host.swap(0, 2), 0);
        Check.due("its word", host.peek(0, 2 * 16 + 2), 23);
        Check.badState("move of a SWAPPED one", () -> host.move(0, 2));
        Check.badState("move of a FRESH one", () -> host.move(0, 4));
        Check.badState("move of none", () -> host.move(0, 20));
        Check.badState("move of no guest", () -> host.move(3, 0));
    }

    private static void moveLeavesOthersAlone() {
        Rig rig = new Rig(20);
        for (int page = 0; page < 5; page++) {
            for (int i = 0; i < 16; i += 4) {
                rig.write(page * 16 + i, page * 16 + i + 1, 2, 3, page * 16 + i + 4);
            }
        }
        Check.due("move(1)", rig.host.move(0, 1), 7);
        Check.due("move(3)", rig.host.move(0, 3), 3);
        for (int page = 0; page < 5; page++) {
            Check.due("first word of " + page, rig.host.peek(0, page * 16), page * 16 + 1);
            Check.due("last word of " + page, rig.host.peek(0, page * 16 + 15), page * 16 + 16);
        }
    }

    private static void moveNeedsFrame() {
        NestedPager host = new NestedPager();
        host.guest(128);
        fill(host, 0, 119);
        List<Integer> before = Snapshot.of(host);
        Check.due("no FREE frame", host.move(0, 5), NestedPager.ROOM);
        Check.badState("IllegalState goes before ROOM", () -> host.move(0, 127));
        Check.holds("nothing changes", before.equals(Snapshot.of(host)));
    }

    private static void targets() {
        Rig rig = new Rig(1);
        NestedPager host = rig.host;
        Check.due("target(128)", host.target(0, 128), 0);
        Check.due("TARGET", host.count(0, 1), 128);
        Check.due("target(0)", host.target(0, 0), 128);
        Check.due("TARGET", host.count(0, 1), 0);
        Check.badState("no guest", () -> host.target(1, 0));
    }

    private static void harvesting() {
        Rig rig = new Rig(128);
        NestedPager host = rig.host;
        Check.due("nothing yet", host.harvest(0), 0);
        rig.dueAccess("127", Rig.WRITE, 127 * 16, 1, 0);
        rig.dueAccess("9", Rig.WRITE, 9 * 16, 1, 0);
        rig.dueAccess("5 is read alone", Rig.READ, 5 * 16, 0, 0);
        rig.write(7 * 16, 1);
        host.swap(0, 9);
        Check.due("SWAPPED ones too", host.harvest(0), 3);
        Check.due("least first", host.dirty(0), 7);
        Check.due("then", host.dirty(1), 9);
        Check.due("then", host.dirty(2), 127);
        Check.due("no more", host.dirty(3), -1);
        Check.due("none", host.dirty(-1), -1);
        Check.due("no longer DIRTY", host.entry(0, 9), 64);
        Check.due("ACCESSED stays", host.entry(0, 127) & 255, 32 + 8);
        rig.dueAccess("a read", Rig.READ, 9 * 16, 0, 1);
        Check.badState("no guest", () -> host.harvest(1));
        Check.due("the latest stays", host.dirty(2), 127);
        Check.due("none since", host.harvest(0), 0);
        Check.due("none now", host.dirty(0), -1);
        rig.dueAccess("again", Rig.WRITE, 9 * 16 + 1, 1, 0);
        Check.due("one", host.harvest(0), 1);
        Check.due("it", host.dirty(0), 9);
        host.guest(3);
        host.poke(1, 16, 1, 1, 1, 1);
        Check.due("another guest's", host.harvest(1), 1);
        Check.due("its page", host.dirty(0), 1);
    }

    private static void poking() {
        Rig rig = new Rig(5);
        NestedPager host = rig.host;
        host.deny(0, 2, 7);
        Check.due("whatever is DENIED", host.poke(0, 2 * 16 + 12, 1, 65535, 0, 4), 0);
        Check.due("DIRTY without ACCESSED", host.entry(0, 2), 2 * 256 + 32 + 16 + 7);
        Check.due("its word", host.frame(2, 13), 65535);
        Check.due("a DEMAND", host.count(0, 5), 1);
        host.deny(0, 2, 0);
        rig.dueAccess("ACCESSED", Rig.READ, 2 * 16 + 15, 0, 4);
        host.poke(0, 2 * 16, 9, 8, 7, 6);
        Check.due("ACCESSED stays", host.entry(0, 2), 2 * 256 + 32 + 16 + 8);
        host.harvest(0);
        host.swap(0, 2);
        Check.due("a SWAPPED one", host.poke(0, 2 * 16 + 4, 5, 4, 3, 2), 0);
        Check.due("a SWAPIN", host.count(0, 6), 1);
        Check.due("DIRTY again", host.entry(0, 2), 2 * 256 + 32 + 16);
        Check.due("its other words", host.peek(0, 2 * 16 + 3), 6);
        Check.due("its words", host.peek(0, 2 * 16 + 7), 2);
        Check.due("the last page", host.poke(0, 4 * 16 + 12, 1, 1, 1, 1), 0);
        Check.due("behind RAM", host.poke(0, 5 * 16, 1, 1, 1, 1), Rig.NOTHING);
        Check.badState("no guest", () -> host.poke(1, 0, 0, 0, 0, 0));
        Check.due("no TICK", host.count(0, 8), 1);
        rig.write(0, Rig.call(1));
        rig.set(Rig.A, 3);
        rig.dueRun("give page 3", 1, 1);
        Check.due("GIVEN", host.poke(0, 3 * 16, 1, 1, 1, 1), Rig.GIVEN);
    }

    private static void peeking() {
        Rig rig = new Rig(3);
        NestedPager host = rig.host;
        rig.write(16, 5, 6, 7, 8);
        host.deny(0, 1, 7);
        List<Integer> before = Snapshot.of(host);
        Check.due("in its frame", host.peek(0, 18), 7);
        Check.due("FRESH", host.peek(0, 0), 0);
        Check.due("not below RAM", host.peek(0, 48), 0);
        Check.due("the last", host.peek(0, 2047), 0);
        Check.holds("nothing changes", before.equals(Snapshot.of(host)));
        host.swap(0, 1);
        Check.due("in its SLOT", host.peek(0, 19), 8);
        Check.due("it stays there", host.entry(0, 1), 64 + 16 + 7);
        Check.badState("no guest", () -> host.peek(1, 0));
    }

    private static void counting() {
        Rig rig = new Rig(50);
        NestedPager host = rig.host;
        host.vcpu(0);
        host.target(0, 9);
        rig.write(0, Rig.set(40), Rig.call(1), Rig.set(41), Rig.call(1));
        rig.dueRun("two are GIVEN", 4, 4);
        for (int page = 1; page < 6; page++) {
            rig.dueAccess("page", Rig.WRITE, page * 16, page, 0);
        }
        host.swap(0, 1);
        host.swap(0, 2);
        host.swap(0, 3);
        rig.dueAccess("page 3 again", Rig.READ, 3 * 16, 0, 3);
        rig.dueAccess("print", Rig.WRITE, Rig.CONSOLE, 300, 0);
        rig.dueAccess("mail", Rig.WRITE, Rig.POST, 1, 0);
        int[] want = {50, 9, 4, 2, 2, 6, 1, 0, 12, 1, 1, 2};
        for (int what = 0; what < 12; what++) {
            Check.due("count(" + what + ")", host.count(0, what), want[what]);
        }
        Check.badState("no guest", () -> host.count(1, 0));
        int[] ofHost = {128 - 7, 62, 0, 1, 2};
        // root, two tables, pages 0, 3, 4, 5
        for (int what = 0; what < 5; what++) {
            Check.due("host(" + what + ")", host.host(what), ofHost[what]);
        }
    }

    private static void dueOwner(NestedPager host, int frame, int role, int guest, int page) {
        Check.due("owner(" + frame + ", 0)", host.owner(frame, 0), role);
        Check.due("owner(" + frame + ", 1)", host.owner(frame, 1), guest);
        Check.due("owner(" + frame + ", 2)", host.owner(frame, 2), page);
    }

    private static void dueZeros(NestedPager host, int frame) {
        for (int i = 0; i < 16; i++) {
            Check.due("frame(" + frame + ", " + i + ")", host.frame(frame, i), 0);
        }
    }
}
