import java.util.List;

/** A test for each sentence of "THE HOST" (Terms) that names an edge; each begins with the sentence. */
final class HostTermsTest {
    private HostTermsTest() {
    }

    public static void main(String[] args) {
        wordsHaveSixteenBits();
        framesAndSlotsHaveSixteenWords();
        tableInFrameZero();
        pageInFrameZero();
        walkThroughFrameZero();
        freeFramesAreZero();
        newFrameIsTheLeast();
        newFrameIsZero();
        reclaimsIfNoneIsFree();
        noneWithoutSlot();
        handAtFirst();
        frameZeroIsReclaimed();
        zeroIsBehindLastFrame();
        handGoesRoundInOneSearch();
        handGoesOverEnough();
        noPageIsPassed();
        accessedIsPassed();
        reclaimedGoesIntoLeastSlot();
        handIsWhereItWas();
        Check.end();
    }

    private static void wordsHaveSixteenBits() {
        Check.sentence("WORDS have 16 bits, 0 .. 65535.");
        Rig rig = new Rig(1);
        NestedPager host = rig.host;
        for (int word : new int[] {0, 65535}) {
            rig.dueAccess("WRITE", Rig.WRITE, 15, word, 0);
            rig.dueAccess("READ", Rig.READ, 15, word, word);
            rig.dueAccess("FETCH", Rig.FETCH, 15, word, word);
            Check.due("poke", host.poke(0, 8, word, word, word, word), 0);
            Check.due("the last poked", host.peek(0, 11), word);
        }
        for (int bad : new int[] {-1, 65536}) {
            for (int kind = 0; kind < 3; kind++) {
                int k = kind;
                Check.badArgument("access of kind " + k + " with " + bad, () -> rig.access(k, 0, bad));
            }
            Check.badArgument("the first poked is " + bad, () -> host.poke(0, 0, bad, 0, 0, 0));
            Check.badArgument("the second poked is " + bad, () -> host.poke(0, 0, 0, bad, 0, 0));
            Check.badArgument("the third poked is " + bad, () -> host.poke(0, 0, 0, 0, bad, 0));
            Check.badArgument("the fourth poked is " + bad, () -> host.poke(0, 0, 0, 0, 0, bad));
        }
        Check.due("nothing came of these", host.peek(0, 0), 0);
    }

    private static void framesAndSlotsHaveSixteenWords() {
        Check.sentence("FRAMES 0 .. 127 and SLOTS 0 .. 63 have 16 words each.");
        Rig rig = new Rig(128);
        NestedPager host = rig.host;
        for (int page = 0; page < 64; page++) {
            Hosts.fillPage(host, 0, page, 100 * page + 1);
            Check.due("the SLOT", host.swap(0, page), page);
        }
        Check.due("no SLOT is left", host.host(1), 0);
        for (int page = 0; page < 64; page++) {
            Hosts.duePage(host, 0, page, 100 * page + 1);
        }
        rig = Hosts.withoutFrames();
        Hosts.fillPage(rig.host, 0, 118, 5000);
        Hosts.dueOwner(rig.host, 127, 2, 0, 118);
        for (int i = 0; i < 16; i++) {
            Check.due("frame(127, " + i + ")", rig.host.frame(127, i), 5000 + i);
        }
        NestedPager full = rig.host;
        Check.badArgument("frame 128", () -> full.frame(128, 0));
        Check.badArgument("word 16", () -> full.frame(127, 16));
    }

    /** Guest 1 with VCPU 0, where frame 0 is FREE and, if it is told so, page 1 and its TABLE are HERE. */
    private static NestedPager frameZeroFree(boolean withTable) {
        NestedPager host = new NestedPager();
        host.guest(1);
        host.guest(40);
        host.vcpu(1);
        if (withTable) {
            host.poke(1, 16, 1, 1, 1, 1);
        }
        host.destroy(0);
        return host;
    }

    private static void tableInFrameZero() {
        Check.sentence("FRAMES 0 .. 127 and SLOTS 0 .. 63 have 16 words each.");
        NestedPager host = frameZeroFree(false);
        Check.due("deny", host.deny(1, 16, 6), 0);
        Hosts.dueOwner(host, 0, 1, 1, 16);
        Check.due("the ROOT TABLE", host.frame(1, 1), 1);
        Check.due("the ENTRY", host.frame(0, 0), 6);
        Check.due("entry", host.entry(1, 16), 6);
        Check.due("deny", host.deny(1, 16, 0), 6);
        Check.due("a WRITE", host.access(0, 1, 16 * 16, 5), 0);
        Check.due("the ENTRY", host.frame(0, 0), 2 * 256 + 32 + 16 + 8);
        Check.due("harvest", host.harvest(1), 1);
        Check.due("which", host.dirty(0), 16);
        Check.due("swap", host.swap(1, 16), 0);
        Check.due("a READ", host.access(0, 0, 16 * 16, 0), 5);
        host.poke(1, 0, Rig.call(1), Rig.call(2), 0, 0);
        host.set(0, Rig.A, 16);
        host.run(0, 1);
        Check.due("give", host.get(0, Rig.A), 0);
        Check.due("GIVEN", host.entry(1, 16), 96);
        host.set(0, Rig.A, 16);
        host.run(0, 1);
        Check.due("take back", host.get(0, Rig.A), 0);
        Check.due("FRESH", host.entry(1, 16), 0);
        Check.due("an ACCESS alone", frameZeroFree(false).access(0, 1, 16 * 16, 5), 0);
        host = frameZeroFree(false);
        host.poke(1, 0, Rig.call(1), 0, 0, 0);
        Hosts.dueOwner(host, 0, 1, 1, 0);
        host.set(0, Rig.A, 0);
        host.run(0, 1);
        Check.due("the ENTRY of page 0", host.frame(0, 0), 96);
        Check.due("destroy", host.destroy(1), 2);
        Check.due("FREE frames", host.host(0), 128);
    }

    private static void pageInFrameZero() {
        Check.sentence("FRAMES 0 .. 127 and SLOTS 0 .. 63 have 16 words each.");
        NestedPager host = frameZeroFree(true);
        Check.due("poke", host.poke(1, 32, 5, 6, 7, 8), 0);
        Hosts.dueOwner(host, 0, 2, 1, 2);
        Check.due("the ENTRY", host.entry(1, 2), 32 + 16);
        Check.due("a READ", host.access(0, 0, 33, 0), 6);
        Check.due("a WRITE", host.access(0, 1, 34, 9), 0);
        Check.due("peek", host.peek(1, 34), 9);
        host.access(0, 1, Rig.DISK + 1, 2);
        host.access(0, 1, Rig.DISK + 2, 2);
        Check.due("no reason", host.access(0, 0, Rig.DISK + 3, 0), 0);
        host.poke(1, 32, 0, 0, 0, 0);
        host.access(0, 1, Rig.DISK + 2, 1);
        Check.due("by the DISK", host.access(0, 0, 33, 0), 6);
        Check.due("swap", host.swap(1, 2), 0);
        Hosts.dueOwner(host, 0, 0, -1, -1);
        Check.due("move", host.move(1, 1), 0);
        Hosts.dueOwner(host, 0, 2, 1, 1);
        Check.due("its words", host.frame(0, 3), 1);
    }

    private static void walkThroughFrameZero() {
        Check.sentence("FRAMES 0 .. 127 and SLOTS 0 .. 63 have 16 words each.");
        for (int inZero = 2; inZero < 4; inZero++) {
            NestedPager host = frameZeroFree(true);
            host.poke(1, inZero * 16, 0, 0, 0, 0);
            host.poke(1, 2 * 16, Rig.to(3, 7), 0, 0, 0);
            host.poke(1, 3 * 16, Rig.to(4, 7), 0, 0, 0);
            Hosts.dueOwner(host, 0, 2, 1, inZero);
            host.set(0, Rig.ROOT, 2);
            host.set(0, Rig.BITS, 1);
            Check.due("a WRITE", host.access(0, 1, 3, 77), 0);
            Check.due("the word", host.peek(1, 4 * 16 + 3), 77);
            Check.due("the first entry", host.peek(1, 32), Rig.to(3, 7 | Rig.ACC));
            Check.due("the LEAF", host.peek(1, 48), Rig.to(4, 7 | Rig.ACC | Rig.DTY));
        }
    }

    private static void freeFramesAreZero() {
        Check.sentence("A frame is FREE (at first; its words are 0 then), a TABLE of a guest, or a PAGE of one.");
        NestedPager fresh = new NestedPager();
        for (int frame = 0; frame < 128; frame++) {
            Hosts.dueFree(fresh, frame);
        }
        Rig rig = new Rig(20);
        NestedPager host = rig.host;
        for (int page = 0; page < 3; page++) {
            Hosts.fillPage(host, 0, page, 300);
        }
        Hosts.dueOwner(host, 0, 1, 0, 256);
        Hosts.dueOwner(host, 1, 1, 0, 0);
        Hosts.dueOwner(host, 4, 2, 0, 2);
        host.swap(0, 2);
        Hosts.dueFree(host, 4);
        host.move(0, 1);
        Hosts.dueFree(host, 3);
        Hosts.give(rig, 1);
        Hosts.dueFree(host, 4);
        host.destroy(0);
        for (int frame = 0; frame < 5; frame++) {
            Hosts.dueFree(host, frame);
        }
    }

    private static void newFrameIsTheLeast() {
        Check.sentence("A NEW FRAME is the least that is FREE, all its words being 0;");
        Rig rig = new Rig(128);
        NestedPager host = rig.host;
        for (int page = 0; page < 6; page++) {
            rig.write(page * 16, 9);
        }
        // Frames 0 and 1 are TABLES, frame 2 + p has page p.
        host.swap(0, 4);
        host.swap(0, 2);
        host.swap(0, 0);
        rig.dueAccess("a page without a TABLE", Rig.READ, 127 * 16, 0, 0);
        Hosts.dueOwner(host, 2, 1, 0, 112);
        Hosts.dueOwner(host, 4, 2, 0, 127);
        rig.dueAccess("a SWAPPED page", Rig.READ, 0, 0, 9);
        Hosts.dueOwner(host, 6, 2, 0, 0);
        rig.dueAccess("behind all others", Rig.READ, 126 * 16, 0, 0);
        Hosts.dueOwner(host, 8, 2, 0, 126);
        for (int page = 6; host.host(0) > 1; page++) {
            rig.write(page * 16, 9);
        }
        rig.dueAccess("the last FREE frame", Rig.READ, 125 * 16, 0, 0);
        Hosts.dueOwner(host, 127, 2, 0, 125);
        Check.due("none was RECLAIMED", host.count(0, 7), 0);
    }

    private static void newFrameIsZero() {
        Check.sentence("A NEW FRAME is the least that is FREE, all its words being 0;");
        Rig rig = Hosts.withoutFrames();
        NestedPager host = rig.host;
        Hosts.fillPage(host, 0, 0, 700);
        Hosts.fillPage(host, 0, 1, 800);
        host.swap(0, 0);
        rig.dueAccess("in a frame that came free", Rig.READ, 119 * 16, 0, 0);
        rig.dueAccess("in a frame that was RECLAIMED", Rig.READ, 120 * 16, 0, 0);
        Hosts.dueOwner(host, 2, 2, 0, 119);
        Hosts.dueOwner(host, 3, 2, 0, 120);
        for (int i = 0; i < 16; i++) {
            Check.due("frame(2, " + i + ")", host.frame(2, i), 0);
            Check.due("frame(3, " + i + ")", host.frame(3, i), 0);
        }
        NestedPager other = Hosts.withSlots(2);
        int frame = Hosts.firstPageFrame(other, 0);
        Check.due("a TABLE by RECLAIMING", other.deny(1, 64, 4), 0);
        Hosts.dueOwner(other, frame, 1, 1, 64);
        for (int i = 0; i < 16; i++) {
            Check.due("the TABLE's word " + i, other.frame(frame, i), i == 0 ? 4 : 0);
        }
    }

    private static void reclaimsIfNoneIsFree() {
        Check.sentence("if none is, one is RECLAIMED:");
        Rig rig = Hosts.withoutFrames();
        NestedPager host = rig.host;
        host.swap(0, 50);
        rig.dueAccess("one is FREE", Rig.READ, 119 * 16, 0, 0);
        Check.due("none is RECLAIMED", host.count(0, 7), 0);
        Check.due("FREE frames", host.host(0), 0);
        rig.dueAccess("none is FREE", Rig.READ, 120 * 16, 0, 0);
        Check.due("one is RECLAIMED", host.count(0, 7), 1);
        Check.due("FREE frames", host.host(0), 0);
        Check.due("free SLOTS", host.host(1), 62);
    }

    private static void noneWithoutSlot() {
        Check.sentence("if no SLOT is free there is none;");
        NestedPager host = Hosts.withSlots(1);
        Check.due("the last SLOT", host.poke(1, 60 * 16, 1, 1, 1, 1), 0);
        Check.due("free SLOTS", host.host(1), 0);
        List<Integer> before = Snapshot.of(host);
        Check.due("a page without a SLOT", host.poke(1, 61 * 16, 1, 1, 1, 1), Rig.NOROOM);
        Check.due("a TABLE without a SLOT", host.poke(1, 64 * 16, 1, 1, 1, 1), Rig.NOROOM);
        Check.due("deny without a SLOT", host.deny(1, 64, 1), NestedPager.ROOM);
        Check.holds("nothing changes", before.equals(Snapshot.of(host)));
        host.move(0, 64);
        host.destroy(0);
        Check.due("FREE frames and SLOTS again", host.poke(1, 61 * 16, 1, 1, 1, 1), 0);
    }

    private static void handAtFirst() {
        Check.sentence("else THE HAND (at first at frame 0) goes from frame to frame (0 behind 127), over at most 256:");
        Check.due("at first", new NestedPager().host(2), 0);
        Rig rig = Hosts.withoutFrames();
        Check.due("while frames are FREE", rig.host.host(2), 0);
        rig.dueAccess("RECLAIMED", Rig.READ, 119 * 16, 0, 0);
        Check.due("the first PAGE went", rig.host.entry(0, 0) & 127, 64 + 16);
        Check.due("THE HAND", rig.host.host(2), 3);
        rig.host.destroy(0);
        Check.due("it stays when all are FREE", rig.host.host(2), 3);
    }

    private static void frameZeroIsReclaimed() {
        Check.sentence("else THE HAND (at first at frame 0) goes from frame to frame (0 behind 127), over at most 256:");
        NestedPager host = new NestedPager();
        host.guest(1);
        host.guest(128);
        host.vcpu(1);
        host.poke(1, 0, 50, 0, 0, 0);
        host.destroy(0);
        for (int page = 1; page < 119; page++) {
            host.poke(1, page * 16, 50 + page, 0, 0, 0);
        }
        Check.due("FREE frames", host.host(0), 0);
        Check.due("page 1 is in frame 0", host.entry(1, 1), 32 + 16);
        Check.due("a new page", host.access(0, 1, 119 * 16, 3), 0);
        Check.due("page 1 is SWAPPED", host.entry(1, 1), 64 + 16);
        Check.due("page 119 is in frame 0", host.entry(1, 119), 32 + 16 + 8);
        Check.due("THE HAND", host.host(2), 1);
        Check.due("page 1 comes back", host.access(0, 0, 16, 0), 51);
    }

    private static void zeroIsBehindLastFrame() {
        Check.sentence("else THE HAND (at first at frame 0) goes from frame to frame (0 behind 127), over at most 256:");
        Rig rig = Hosts.withoutFrames();
        NestedPager host = rig.host;
        for (int page = 0; page < 118; page++) {
            rig.dueAccess("ACCESSED", Rig.READ, page * 16, 0, 1000 + page);
        }
        rig.dueAccess("frame 127 is RECLAIMED", Rig.READ, 119 * 16, 0, 0);
        Hosts.dueOwner(host, 127, 2, 0, 119);
        Check.due("page 118 went", host.entry(0, 118), 64 + 16);
        Check.due("THE HAND is behind 127", host.host(2), 0);
        rig.dueAccess("it goes on", Rig.READ, 118 * 16, 0, 1118);
        Hosts.dueOwner(host, 2, 2, 0, 118);
        Check.due("THE HAND", host.host(2), 3);
    }

    private static void handGoesRoundInOneSearch() {
        Check.sentence("else THE HAND (at first at frame 0) goes from frame to frame (0 behind 127), over at most 256:");
        Rig rig = Hosts.withoutFrames();
        NestedPager host = rig.host;
        for (int page = 0; page < 98; page++) {
            rig.dueAccess("ACCESSED", Rig.READ, page * 16, 0, 1000 + page);
        }
        rig.dueAccess("page 98 goes", Rig.READ, 119 * 16, 0, 0);
        Check.due("THE HAND", host.host(2), Hosts.frameOf(98) + 1);
        for (int page = 99; page < 119; page++) {
            rig.dueAccess("ACCESSED", Rig.READ, page * 16, 0, 1000 + page);
        }
        rig.dueAccess("page 0 goes, behind 127", Rig.READ, 120 * 16, 0, 0);
        Check.due("page 0", host.entry(0, 0), 256 + 64 + 16);
        Check.due("page 118 lost ACCESSED", host.entry(0, 118), 127 * 256 + 32 + 16);
        Check.due("THE HAND", host.host(2), 3);
        Check.due("page 119, which was not passed, did not", host.entry(0, 119) & 127, 32 + 8);
    }

    /** As many TABLES as there can be before the first PAGE, all PAGES ACCESSED: no search is longer. */
    private static void handGoesOverEnough() {
        Check.sentence("else THE HAND (at first at frame 0) goes from frame to frame (0 behind 127), over at most 256:");
        NestedPager host = new NestedPager();
        for (int guest = 0; guest < 4; guest++) {
            host.guest(128);
        }
        host.vcpu(0);
        for (int guest = 0; guest < 4; guest++) {
            for (int page = 0; page < 128; page += 16) {
                host.deny(guest, page, 1);
                host.deny(guest, page, 0);
            }
        }
        for (int page = 0; page < 92; page++) {
            Check.due("ACCESSED", host.access(0, 0, page * 16, 0), 0);
        }
        Check.due("FREE frames", host.host(0), 0);
        Check.due("36 TABLES are before page 0", host.entry(0, 0), 36 * 256 + 32 + 8);
        Check.due("passed once, then taken", host.access(0, 1, 92 * 16, 5), 0);
        Check.due("page 0 went", host.entry(0, 0), 64);
        Check.due("THE HAND", host.host(2), 37);
        for (int page = 1; page < 92; page++) {
            Check.due("page " + page + " lost ACCESSED", host.entry(0, page), (36 + page) * 256 + 32);
        }
    }

    private static void noPageIsPassed() {
        Check.sentence("a frame that is no PAGE is passed;");
        Rig rig = Hosts.withoutFrames();
        NestedPager host = rig.host;
        for (int i = 0; i < 16; i++) {
            rig.dueAccess("page " + i, Rig.READ, i * 16, 0, 1000 + i);
        }
        rig.dueAccess("behind TABLES 0, 1 and 18", Rig.READ, 119 * 16, 0, 0);
        Check.due("page 16 went", host.entry(0, 16) & 127, 64 + 16);
        Hosts.dueOwner(host, 0, 1, 0, 256);
        Hosts.dueOwner(host, 1, 1, 0, 0);
        Hosts.dueOwner(host, 18, 1, 0, 16);
        Check.due("THE HAND", host.host(2), 20);
    }

    private static void accessedIsPassed() {
        Check.sentence("one whose ENTRY has ACCESSED loses that and is passed;");
        Rig rig = Hosts.withoutFrames();
        NestedPager host = rig.host;
        host.harvest(0);
        host.deny(0, 0, 6);
        rig.dueAccess("READ", Rig.READ, 0, 0, 1000);
        rig.dueAccess("WRITE", Rig.WRITE, 17, 5, 0);
        rig.dueAccess("FETCH", Rig.FETCH, 32, 0, 1002);
        rig.dueAccess("behind the one that goes", Rig.READ, 64, 0, 1004);
        rig.dueAccess("page 119", Rig.READ, 119 * 16, 0, 0);
        Check.due("page 0 has all else", host.entry(0, 0), 2 * 256 + 32 + 6);
        Check.due("page 1 has all else", host.entry(0, 1), 3 * 256 + 32 + 16);
        Check.due("page 2 has all else", host.entry(0, 2), 4 * 256 + 32);
        Check.due("page 3 went", host.entry(0, 3), 64);
        Check.due("page 4 was not met", host.entry(0, 4), 6 * 256 + 32 + 8);
    }

    private static void reclaimedGoesIntoLeastSlot() {
        Check.sentence("else its words go into the least free SLOT, its page is SWAPPED, the frame is the NEW one, "
            + "and THE HAND is behind it.");
        Rig rig = Hosts.withoutFrames();
        NestedPager host = rig.host;
        Hosts.fillPage(host, 0, 0, 600);
        host.swap(0, 70);
        host.swap(0, 71);
        host.swap(0, 72);
        rig.dueAccess("SLOT 1 comes free", Rig.READ, 71 * 16, 0, 1071);
        rig.write(119 * 16, 9);
        rig.write(120 * 16, 9);
        Check.due("FREE frames", host.host(0), 0);
        rig.dueAccess("a RECLAIMED frame", Rig.READ, 121 * 16, 0, 0);
        Check.due("page 0 is in SLOT 1, the least", host.entry(0, 0), 256 + 64 + 16);
        Hosts.duePage(host, 0, 0, 600);
        Hosts.dueOwner(host, 2, 2, 0, 121);
        Check.due("THE HAND", host.host(2), 3);
        Check.due("RECLAIMED", host.count(0, 7), 1);
    }

    /** At most 36 frames are TABLES, so that THE HAND fails only for want of a SLOT. */
    private static void handIsWhereItWas() {
        Check.sentence("If it finds none there is none (THE HAND is where it was then).");
        NestedPager host = Hosts.withSlots(1);
        int first = Hosts.firstPageFrame(host, 0);
        Check.due("a frame by the last SLOT", host.access(1, 0, 60 * 16, 0), 0);
        Check.due("THE HAND", host.host(2), first + 1);
        int page = host.owner(Hosts.firstPageFrame(host, first + 1), 2);
        Check.due("the next one is ACCESSED", host.access(0, 0, page * 16, 0), 1000 + page);
        int entry = host.entry(0, page);
        for (int address : new int[] {61 * 16, 64 * 16}) {
            Check.due("none", host.access(1, 0, address, 0), NestedPager.EXIT);
            Check.due("NOROOM", host.exit(1, 0), Rig.NOROOM);
            Check.due("THE HAND", host.host(2), first + 1);
            Check.due("ACCESSED is not lost", host.entry(0, page), entry);
        }
    }
}
