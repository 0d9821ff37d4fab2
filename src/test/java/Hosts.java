/** Hosts at their limits, and what is asked of them again and again. */
final class Hosts {
    private Hosts() {
    }

    /** Guest 0 has pages 0 .. 118 HERE by poke(), so not ACCESSED; no frame is FREE. Word 0 of page p is 1000 + p. */
    static Rig withoutFrames() {
        Rig rig = new Rig(128);
        for (int page = 0; page < 119; page++) {
            rig.write(page * 16, 1000 + page);
        }
        Check.due("FREE frames", rig.host.host(0), 0);
        return rig;
    }

    /** The frame of a page of withoutFrames(): behind the root, the tables and the pages before it. */
    static int frameOf(int page) {
        return page + page / 16 + 2;
    }

    /**
     * Guests 0 and 1 with VCPUS 0 and 1, no FREE frame, and as many free SLOTS (0 .. 2) as left says. Of guest 0 all
     * pages are used, the first are SWAPPED into the SLOTS of their numbers; guest 1 has TABLES of pages 0 .. 63
     * alone, and its pages from 50 on are FRESH. Nothing is ACCESSED; word 0 of page p of guest 0 is 1000 + p.
     */
    static NestedPager withSlots(int left) {
        NestedPager host = new NestedPager();
        for (int guest = 0; guest < 2; guest++) {
            host.guest(128);
            host.vcpu(guest);
        }
        for (int page = 0; page < 128; page++) {
            Check.due("poke of guest 0", host.poke(0, page * 16, 1000 + page, 0, 0, 0), 0);
            if (page < 64 - left) {
                Check.due("swap", host.swap(0, page), page);
            }
        }
        for (int page = 0; host.host(0) > 0; page++) {
            if (page == 48) {
                host.deny(1, page, 1);
                host.deny(1, page, 0);
            }
            if (host.host(0) > 0) {
                Check.due("poke of guest 1", host.poke(1, page * 16, 2000 + page, 0, 0, 0), 0);
            }
        }
        Check.due("free SLOTS", host.host(1), left);
        Check.due("THE HAND", host.host(2), 0);
        Check.due("guest 1's TABLE of pages 48 and on", host.frame(1, 3) & 255, 1);
        Check.due("it has no other", host.frame(1, 4), 0);
        return host;
    }

    /** The first frame from one on that is a PAGE: where THE HAND stops, if nothing is ACCESSED. */
    static int firstPageFrame(NestedPager host, int from) {
        int frame = from;
        while (host.owner(frame, 0) != 2) {
            frame++;
        }
        return frame;
    }

    /** A page of guest 0 becomes GIVEN by its VCPU 0, with a program in page 0, which is left as it was. */
    static void give(Rig rig, int page) {
        int[] was = new int[4];
        for (int i = 0; i < 4; i++) {
            was[i] = rig.host.peek(0, i);
        }
        rig.write(0, Rig.call(1));
        rig.set(Rig.PC, 0);
        rig.set(Rig.A, page);
        rig.dueRun("page " + page + " is GIVEN", 1, 1);
        rig.dueReg("page " + page + " is GIVEN", Rig.A, 0);
        rig.write(0, was);
    }

    static void dueOwner(NestedPager host, int frame, int role, int guest, int page) {
        Check.due("owner(" + frame + ", 0)", host.owner(frame, 0), role);
        Check.due("owner(" + frame + ", 1)", host.owner(frame, 1), guest);
        Check.due("owner(" + frame + ", 2)", host.owner(frame, 2), page);
    }

    static void dueFree(NestedPager host, int frame) {
        dueOwner(host, frame, 0, -1, -1);
        for (int i = 0; i < 16; i++) {
            Check.due("frame(" + frame + ", " + i + ")", host.frame(frame, i), 0);
        }
    }

    /** Words first, first + 1, .. all over a page. */
    static void fillPage(NestedPager host, int guest, int page, int first) {
        for (int i = 0; i < 16; i += 4) {
            int w = first + i;
            Check.due("poke", host.poke(guest, page * 16 + i, w, w + 1, w + 2, w + 3), 0);
        }
    }

    static void duePage(NestedPager host, int guest, int page, int first) {
        for (int i = 0; i < 16; i++) {
            Check.due("peek(" + guest + ", " + (page * 16 + i) + ")", host.peek(guest, page * 16 + i), first + i);
        }
    }
}
