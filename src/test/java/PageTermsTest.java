import java.util.List;

/** A test for each sentence of "THE HOST" (Terms) on guests, TABLES, ENTRIES and REACHING that names an edge. */
final class PageTermsTest {
    private static final int E = NestedPager.EXIT;

    private PageTermsTest() {
    }

    public static void main(String[] args) {
        guestsAreFour();
        pagesOfMemoryAndDevices();
        rootTableLeadsToTables();
        entryTellsItsKind();
        swappedKeepsDeniedAndDirty();
        reclaimedKeepsDeniedAndDirty();
        tableComesWithFirstEntry();
        tableDoesNotComeForNothing();
        tableComesWithoutFrameForPage();
        tableStaysAsLongAsGuest();
        nothingGoesFirst();
        deniedGoesBeforeGiven();
        givenGoesBeforeNoRoom();
        deniedGoesBeforeNoRoom();
        deniedIsByKind();
        noRoomForTableOrPage();
        hereNeedsNoRoom();
        freshComesByDemand();
        swappedComesBySwapin();
        swappedNeedsAnotherSlot();
        accessedAndDirty();
        reclaimingStaysWithNoRoom();
        Check.end();
    }

    private static void guestsAreFour() {
        Check.sentence("GUESTS are 0 .. 3.");
        NestedPager host = new NestedPager();
        for (int guest = 0; guest < 4; guest++) {
            int g = guest;
            Check.badState("not yet", () -> host.count(g, 0));
            Check.due("guest", host.guest(1), guest);
            Check.due("its RAM", host.count(guest, 0), 1);
        }
        for (int bad : new int[] {-1, 4}) {
            Check.badArgument("count", () -> host.count(bad, 0));
            Check.badArgument("vcpu", () -> host.vcpu(bad));
        }
    }

    private static void pagesOfMemoryAndDevices() {
        Check.sentence("One has RAM, 1 .. 128: its pages 0 .. RAM - 1 are memory, pages 240 .. 243 DEVICES, "
            + "others nothing.");
        for (int ram : new int[] {1, 16, 17, 127, 128}) {
            Rig rig = new Rig(ram);
            rig.dueAccess("the last page of " + ram, Rig.WRITE, ram * 16 - 1, 5, 0);
            Check.due("its word", rig.host.peek(0, ram * 16 - 1), 5);
            for (int page : new int[] {ram, 128, 239, 244, 255}) {
                rig.dueAccess("page " + page + " of " + ram, Rig.READ, page * 16 + 15, 0, E);
                rig.dueExit("page " + page + " of " + ram, Rig.NOTHING, page * 16 + 15, page * 16 + 15, 0, 0);
            }
            for (int page = 240; page < 244; page++) {
                rig.dueAccess("page " + page, Rig.WRITE, page * 16 + 15, 5, 0);
                rig.dueAccess("page " + page, Rig.READ, page * 16 + 15, 0, 0);
                rig.dueAccess("page " + page, Rig.FETCH, page * 16 + 15, 0, E);
                rig.dueExit("page " + page, Rig.DEVICE, page * 16 + 15, page * 16 + 15, 2, 0);
            }
        }
    }

    private static void rootTableLeadsToTables() {
        Check.sentence("word k is 0, or 256 times the TABLE of pages 16 k .. 16 k + 15, and 1; "
            + "word j of that is the ENTRY of page 16 k + j (without such a TABLE: 0).");
        Rig rig = new Rig(128);
        NestedPager host = rig.host;
        int[] pages = {127, 15, 16, 0, 31, 112};
        for (int i = 0; i < pages.length; i++) {
            Check.due("entry(" + pages[i] + ") before", host.entry(0, pages[i]), 0);
            Check.due("deny", host.deny(0, pages[i], i + 1), 0);
        }
        int[] tableOf = {2, 3, 0, 0, 0, 0, 0, 1};
        for (int k = 0; k < 16; k++) {
            int want = k < 8 && tableOf[k] != 0 ? tableOf[k] * 256 + 1 : 0;
            Check.due("the ROOT TABLE's word " + k, host.frame(0, k), want);
        }
        for (int i = 0; i < pages.length; i++) {
            int table = tableOf[pages[i] / 16];
            Check.due("the TABLE's word", host.frame(table, pages[i] % 16), i + 1);
            Check.due("entry(" + pages[i] + ")", host.entry(0, pages[i]), i + 1);
        }
        Check.due("without a TABLE", host.entry(0, 32), 0);
        Check.due("the one behind", host.entry(0, 17), 0);
        Check.due("no more TABLES", host.host(0), 124);
    }

    private static void entryTellsItsKind() {
        Check.sentence("An ENTRY: bits 0 to 2 what is DENIED (1 READ, 2 WRITE, 4 EXECUTE), 3 ACCESSED, 4 DIRTY, "
            + "5 and 6 its KIND: 0 FRESH, 1 HERE (bits 8 to 15 are its frame), 2 SWAPPED (its SLOT), 3 GIVEN; "
            + "all others 0.");
        Rig rig = Hosts.withoutFrames();
        NestedPager host = rig.host;
        rig.dueAccess("WRITE", Rig.WRITE, 118 * 16, 7, 0);
        host.deny(0, 118, 7);
        Check.due("HERE in frame 127, with all bits", host.entry(0, 118), 127 * 256 + 32 + 16 + 8 + 7);
        for (int page = 0; page < 63; page++) {
            Check.due("swap", host.swap(0, page), page);
        }
        Check.due("swap", host.swap(0, 118), 63);
        Check.due("SWAPPED into SLOT 63", host.entry(0, 118), 63 * 256 + 64 + 16 + 7);
        host.deny(0, 118, 4);
        rig.write(63 * 16, Rig.call(1));
        rig.set(Rig.PC, 63 * 16);
        rig.set(Rig.A, 118);
        rig.dueRun("give", 1, 1);
        Check.due("GIVEN, without SLOT and DIRTY", host.entry(0, 118), 96 + 4);
        host.deny(0, 120, 5);
        Check.due("FRESH", host.entry(0, 120), 5);
        NestedPager zero = new NestedPager();
        zero.guest(1);
        zero.guest(1);
        zero.deny(1, 0, 1);
        zero.destroy(0);
        zero.poke(1, 0, 1, 1, 1, 1);
        Check.due("HERE in frame 0", zero.entry(1, 0), 32 + 16 + 1);
    }

    private static void swappedKeepsDeniedAndDirty() {
        Check.sentence("A page that becomes SWAPPED keeps what is DENIED and DIRTY alone.");
        for (int kind = 0; kind < 3; kind++) {
            for (int denied = 0; denied < 8; denied++) {
                Rig rig = new Rig(20);
                rig.dueAccess("ACCESSED", kind, 19 * 16, 4, 0);
                rig.host.deny(0, 19, denied);
                Check.due("swap", rig.host.swap(0, 19), 0);
                int dirty = kind == Rig.WRITE ? 16 : 0;
                Check.due("kind " + kind + " DENIED " + denied, rig.host.entry(0, 19), 64 + dirty + denied);
            }
        }
    }

    private static void reclaimedKeepsDeniedAndDirty() {
        Check.sentence("A page that becomes SWAPPED keeps what is DENIED and DIRTY alone.");
        Rig rig = Hosts.withoutFrames();
        NestedPager host = rig.host;
        host.deny(0, 0, 7);
        rig.dueAccess("RECLAIM page 0", Rig.READ, 119 * 16, 0, 0);
        Check.due("DENIED and DIRTY", host.entry(0, 0), 64 + 16 + 7);
        host.harvest(0);
        host.deny(0, 1, 2);
        rig.dueAccess("RECLAIM page 1", Rig.READ, 120 * 16, 0, 0);
        Check.due("DENIED alone", host.entry(0, 1), 256 + 64 + 2);
        for (int page = 2; page < 119; page++) {
            rig.access(Rig.READ, page * 16, 0);
        }
        rig.access(Rig.READ, 119 * 16, 0);
        rig.access(Rig.READ, 120 * 16, 0);
        rig.dueAccess("RECLAIM page 2, all being ACCESSED", Rig.READ, 121 * 16, 0, 0);
        Check.due("nothing", host.entry(0, 2), 2 * 256 + 64);
    }

    private static void tableComesWithFirstEntry() {
        Check.sentence("A TABLE comes (a NEW FRAME) when an ENTRY in it is first to be other than 0 "
            + "(also if there is no frame for the page then);");
        for (int way = 0; way < 4; way++) {
            Rig rig = new Rig(128);
            rig.write(0, Rig.call(1));
            rig.set(Rig.A, 31);
            switch (way) {
                case 0: rig.dueAccess("access", Rig.READ, 31 * 16, 0, 0); break;
                case 1: rig.write(31 * 16, 1); break;
                case 2: rig.host.deny(0, 31, 1); break;
                default: rig.dueRun("CALL 1", 1, 1); break;
            }
            Hosts.dueOwner(rig.host, 3, 1, 0, 16);
            Check.due("the ROOT TABLE", rig.host.frame(0, 1), 3 * 256 + 1);
            int free = rig.host.host(0);
            rig.host.deny(0, 16, 1);
            Check.due("none comes where one is", rig.host.host(0), free);
        }
    }

    private static void tableDoesNotComeForNothing() {
        Check.sentence("A TABLE comes (a NEW FRAME) when an ENTRY in it is first to be other than 0 "
            + "(also if there is no frame for the page then);");
        Rig rig = new Rig(20);
        NestedPager host = rig.host;
        Check.due("deny 0", host.deny(0, 16, 0), 0);
        Check.due("peek", host.peek(0, 16 * 16), 0);
        Check.due("entry", host.entry(0, 16), 0);
        Check.due("harvest", host.harvest(0), 0);
        Check.badState("swap", () -> host.swap(0, 16));
        Check.badState("move", () -> host.move(0, 16));
        Check.due("poke of no memory", host.poke(0, 20 * 16, 1, 1, 1, 1), Rig.NOTHING);
        rig.dueAccess("no memory", Rig.WRITE, 20 * 16, 1, E);
        rig.dueAccess("a device", Rig.WRITE, Rig.CONSOLE, 1, 0);
        Check.due("the ROOT TABLE alone", host.host(0), 127);
        rig.write(0, Rig.set(16), Rig.call(2));
        rig.dueRun("CALL 2 of what is not GIVEN", 2, 2);
        Check.due("page 0 and its TABLE alone", host.host(0), 125);
    }

    private static void tableComesWithoutFrameForPage() {
        Check.sentence("A TABLE comes (a NEW FRAME) when an ENTRY in it is first to be other than 0 "
            + "(also if there is no frame for the page then);");
        NestedPager host = Hosts.withSlots(1);
        int frame = Hosts.firstPageFrame(host, 0);
        Check.due("page 79", host.access(1, 1, 79 * 16 + 3, 1), E);
        Check.due("NOROOM", host.exit(1, 0), Rig.NOROOM);
        Check.due("where", host.exit(1, 1), 79 * 16 + 3);
        Hosts.dueOwner(host, frame, 1, 1, 64);
        Check.due("the ROOT TABLE", host.frame(1, 4), frame * 256 + 1);
        Check.due("the ENTRY", host.entry(1, 79), 0);
        for (int i = 0; i < 16; i++) {
            Check.due("the TABLE's word " + i, host.frame(frame, i), 0);
        }
        host = Hosts.withSlots(1);
        Check.due("by poke()", host.poke(1, 79 * 16, 1, 1, 1, 1), Rig.NOROOM);
        Hosts.dueOwner(host, frame, 1, 1, 64);
        Check.due("no DIRTY", host.entry(1, 79), 0);
    }

    private static void tableStaysAsLongAsGuest() {
        Check.sentence("it stays as long as the guest.");
        Rig rig = new Rig(128);
        NestedPager host = rig.host;
        host.deny(0, 127, 3);
        host.deny(0, 127, 0);
        Hosts.dueOwner(host, 1, 1, 0, 112);
        Check.due("the ROOT TABLE", host.frame(0, 7), 256 + 1);
        rig.write(0, Rig.set(40), Rig.call(1), Rig.set(40), Rig.call(2));
        rig.dueRun("GIVEN and FRESH again", 4, 4);
        Check.due("the ENTRY is 0", host.entry(0, 40), 0);
        Hosts.dueOwner(host, 4, 1, 0, 32);
        Check.due("its TABLE stays", host.frame(0, 2), 4 * 256 + 1);
        Check.due("it is used again", host.deny(0, 47, 1), 0);
        Check.due("no other comes", host.host(0), 123);
        Check.due("all go with the guest", host.destroy(0), 5);
        Hosts.dueFree(host, 1);
        Hosts.dueFree(host, 4);
    }

    private static void nothingGoesFirst() {
        Check.sentence("the first of these that is so is an EXIT: NOTHING: it is no memory (DEVICES see below).");
        NestedPager host = Hosts.withSlots(0);
        for (int page : new int[] {128, 239, 244, 255}) {
            Check.due("page " + page + " without room", host.access(1, 0, page * 16, 0), E);
            Check.due("NOTHING", host.exit(1, 0), Rig.NOTHING);
        }
        Rig rig = new Rig(50);
        for (int page : new int[] {50, 63, 64, 127}) {
            for (int kind = 0; kind < 3; kind++) {
                rig.dueAccess("page " + page, kind, page * 16, 0, E);
                rig.dueExit("page " + page, Rig.NOTHING, page * 16, page * 16, kind, 0);
            }
            Check.due("poke", rig.host.poke(0, page * 16, 0, 0, 0, 0), Rig.NOTHING);
        }
    }

    private static void deniedGoesBeforeGiven() {
        Check.sentence("DENIED: that is DENIED. GIVEN: it is.");
        Rig rig = new Rig(20);
        NestedPager host = rig.host;
        Hosts.give(rig, 19);
        for (int kind = 0; kind < 3; kind++) {
            rig.dueAccess("GIVEN", kind, 19 * 16 + 2, 0, E);
            rig.dueExit("GIVEN", Rig.GIVEN, 19 * 16 + 2, 19 * 16 + 2, kind, 0);
        }
        host.deny(0, 19, 2);
        rig.dueAccess("DENIED and GIVEN", Rig.WRITE, 19 * 16, 0, E);
        rig.dueExit("DENIED and GIVEN", Rig.DENIED, 19 * 16, 19 * 16, 1, 0);
        rig.dueAccess("GIVEN alone", Rig.READ, 19 * 16, 0, E);
        rig.dueExit("GIVEN alone", Rig.GIVEN, 19 * 16, 19 * 16, 0, 0);
        Check.due("poke, whatever is DENIED", host.poke(0, 19 * 16, 1, 1, 1, 1), Rig.GIVEN);
        Check.due("it stays so", host.entry(0, 19), 96 + 2);
    }

    private static void givenGoesBeforeNoRoom() {
        Check.sentence("GIVEN: it is. NOROOM: it is FRESH or SWAPPED, and there is no NEW FRAME");
        NestedPager host = Hosts.withSlots(0);
        Check.due("a program", host.poke(1, 0, Rig.call(1), 0, 0, 0), 0);
        host.set(1, Rig.A, 60);
        Check.due("give", host.run(1, 1), 1);
        Check.due("page 60", host.entry(1, 60), 96);
        Check.due("GIVEN without room", host.access(1, 0, 60 * 16, 0), E);
        Check.due("GIVEN", host.exit(1, 0), Rig.GIVEN);
        Check.due("by poke()", host.poke(1, 60 * 16, 1, 1, 1, 1), Rig.GIVEN);
    }

    private static void deniedGoesBeforeNoRoom() {
        Check.sentence("DENIED: that is DENIED.");
        NestedPager host = Hosts.withSlots(0);
        host.deny(1, 60, 1);
        host.deny(0, 3, 1);
        Check.due("FRESH and DENIED", host.access(1, 0, 60 * 16, 0), E);
        Check.due("DENIED", host.exit(1, 0), Rig.DENIED);
        Check.due("SWAPPED and DENIED", host.access(0, 0, 3 * 16, 0), E);
        Check.due("DENIED", host.exit(0, 0), Rig.DENIED);
        Check.due("FRESH", host.access(1, 1, 60 * 16, 0), E);
        Check.due("NOROOM", host.exit(1, 0), Rig.NOROOM);
        Check.due("SWAPPED", host.access(0, 1, 3 * 16, 0), E);
        Check.due("NOROOM", host.exit(0, 0), Rig.NOROOM);
        Check.due("poke, whatever is DENIED", host.poke(1, 60 * 16, 1, 1, 1, 1), Rig.NOROOM);
    }

    private static void deniedIsByKind() {
        Check.sentence("DENIED: that is DENIED.");
        int[] bitOf = {1, 2, 4};
        for (int denied = 0; denied < 8; denied++) {
            for (int kind = 0; kind < 3; kind++) {
                Rig rig = new Rig(20);
                rig.host.deny(0, 19, denied);
                boolean refused = (denied & bitOf[kind]) != 0;
                rig.dueAccess("DENIED " + denied, kind, 19 * 16, 1, refused ? E : 0);
                Check.due("the reason", rig.host.exit(0, 0), refused ? Rig.DENIED : 0);
                int marks = kind == Rig.WRITE ? 16 + 8 : 8;
                int want = refused ? denied : 2 * 256 + 32 + marks + denied;
                Check.due("the ENTRY", rig.host.entry(0, 19), want);
            }
        }
    }

    private static void noRoomForTableOrPage() {
        Check.sentence("there is no NEW FRAME for its TABLE (if there is none yet), or then for itself.");
        NestedPager host = Hosts.withSlots(0);
        for (int kind = 0; kind < 3; kind++) {
            for (int page : new int[] {60, 64, 127}) {
                Check.due("page " + page, host.access(1, kind, page * 16 + 9, 0), E);
                int[] want = {Rig.NOROOM, page * 16 + 9, page * 16 + 9, kind, 0};
                for (int what = 0; what < 5; what++) {
                    Check.due("exit(" + what + ") of page " + page, host.exit(1, what), want[what]);
                }
                Check.due("the ENTRY", host.entry(1, page), 0);
            }
        }
        Check.due("no TABLE", host.frame(1, 4), 0);
        Check.due("no DEMAND", host.count(1, 5), 50);
        host = Hosts.withSlots(2);
        Check.due("room for both", host.access(1, 1, 64 * 16, 7), 0);
        Check.due("its word", host.peek(1, 64 * 16), 7);
        Check.due("two SLOTS went", host.host(1), 0);
        Check.due("two were RECLAIMED", host.count(0, 7) + host.count(1, 7), 2);
    }

    private static void hereNeedsNoRoom() {
        Check.sentence("NOROOM: it is FRESH or SWAPPED,");
        NestedPager host = Hosts.withSlots(0);
        Check.due("a page HERE is READ", host.access(0, 0, 127 * 16, 0), 1127);
        Check.due("and WRITTEN", host.access(0, 1, 127 * 16, 5), 0);
        Check.due("and poked", host.poke(0, 127 * 16 + 4, 6, 6, 6, 6), 0);
        Check.due("its words", host.access(0, 2, 127 * 16 + 7, 0), 6);
    }

    private static void freshComesByDemand() {
        Check.sentence("A FRESH page is HERE then, by a NEW FRAME (a DEMAND);");
        Rig rig = new Rig(128);
        int demands = 0;
        for (int page : new int[] {0, 15, 16, 127}) {
            rig.dueAccess("FRESH", page % 3, page * 16 + 15, 0, 0);
            demands++;
            Check.due("DEMANDS", rig.host.count(0, 5), demands);
            Check.due("HERE", rig.host.entry(0, page) & 96, 32);
            rig.dueAccess("HERE already", page % 3, page * 16, 0, 0);
            Check.due("no DEMAND", rig.host.count(0, 5), demands);
        }
        rig.write(60 * 16, 1);
        Check.due("a DEMAND by poke()", rig.host.count(0, 5), demands + 1);
        Check.due("no SWAPIN", rig.host.count(0, 6), 0);
        Hosts.give(rig, 60);
        rig.write(0, Rig.call(2));
        rig.set(Rig.PC, 0);
        rig.set(Rig.A, 60);
        rig.dueRun("FRESH again", 1, 1);
        rig.dueAccess("its words are 0", Rig.READ, 60 * 16, 0, 0);
        Check.due("another DEMAND", rig.host.count(0, 5), demands + 2);
    }

    private static void swappedComesBySwapin() {
        Check.sentence("a SWAPPED one, by a NEW FRAME with the words of its SLOT, which is free then (a SWAPIN); "
            + "DENIED and DIRTY stay.");
        Rig rig = new Rig(20);
        NestedPager host = rig.host;
        for (int page = 0; page < 3; page++) {
            Hosts.fillPage(host, 0, page, 40 * page);
            host.swap(0, page);
        }
        host.deny(0, 1, 6);
        Check.due("free SLOTS", host.host(1), 61);
        Hosts.fillPage(host, 0, 10, 200);
        Hosts.fillPage(host, 0, 11, 300);
        Check.due("frame 2 comes free, before page 11's", host.move(0, 10), 4);
        rig.dueAccess("SWAPIN", Rig.READ, 16 + 15, 0, 55);
        Hosts.duePage(host, 0, 10, 200);
        Hosts.duePage(host, 0, 11, 300);
        Hosts.duePage(host, 0, 2, 80);
        Hosts.duePage(host, 0, 1, 40);
        Check.due("DENIED and DIRTY stay", host.entry(0, 1), 2 * 256 + 32 + 16 + 8 + 6);
        Check.due("SWAPINS", host.count(0, 6), 1);
        Check.due("no DEMAND", host.count(0, 5), 5);
        Check.due("SLOT 1 is free", host.host(1), 62);
        rig.write(3 * 16, 1);
        Check.due("it is the least", host.swap(0, 3), 1);
        host.harvest(0);
        rig.write(8, 4);
        Check.due("SWAPIN by poke()", host.count(0, 6), 2);
        Check.due("other words stay", host.peek(0, 15), 15);
        rig.dueAccess("without DIRTY", Rig.READ, 32, 0, 80);
        Check.due("not DIRTY", host.entry(0, 2) & 127, 32 + 8);
    }

    private static void swappedNeedsAnotherSlot() {
        Check.sentence("a SWAPPED one, by a NEW FRAME with the words of its SLOT, which is free then (a SWAPIN);");
        NestedPager host = Hosts.withSlots(0);
        List<Integer> before = Snapshot.of(host);
        Check.due("its own SLOT is not free yet", host.poke(0, 0, 1, 1, 1, 1), Rig.NOROOM);
        Check.holds("nothing changes", before.equals(Snapshot.of(host)));
        host = Hosts.withSlots(1);
        int frame = Hosts.firstPageFrame(host, 0);
        int page = host.owner(frame, 2);
        Check.due("another SLOT is free", host.access(0, 0, 0, 0), 1000);
        Check.due("page 0", host.entry(0, 0), frame * 256 + 32 + 16 + 8);
        Check.due("the other page is in SLOT 63", host.entry(0, page), 63 * 256 + 64 + 16);
        Check.due("SLOT 0 is free", host.host(1), 1);
        Check.due("and used next", host.swap(0, 127), 0);
    }

    private static void accessedAndDirty() {
        Check.sentence("It is ACCESSED, for WRITE DIRTY, too.");
        Rig rig = new Rig(20);
        NestedPager host = rig.host;
        rig.dueAccess("READ", Rig.READ, 0, 0, 0);
        rig.dueAccess("FETCH", Rig.FETCH, 16, 0, 0);
        rig.dueAccess("WRITE", Rig.WRITE, 32, 0, 0);
        Check.due("READ", host.entry(0, 0) & 24, 8);
        Check.due("FETCH", host.entry(0, 1) & 24, 8);
        Check.due("WRITE", host.entry(0, 2) & 24, 24);
        rig.dueAccess("a READ of what is DIRTY", Rig.READ, 32, 0, 0);
        Check.due("it stays DIRTY", host.entry(0, 2) & 24, 24);
        host.harvest(0);
        rig.dueAccess("a READ", Rig.READ, 32, 0, 0);
        Check.due("not DIRTY by a READ", host.entry(0, 2) & 24, 8);
        rig.dueAccess("a WRITE of the same word", Rig.WRITE, 32, 0, 0);
        Check.due("DIRTY again", host.entry(0, 2) & 24, 24);
        host.deny(0, 3, 7);
        rig.dueAccess("refused", Rig.WRITE, 48, 1, E);
        Check.due("neither", host.entry(0, 3), 7);
    }

    private static void reclaimingStaysWithNoRoom() {
        Check.sentence("(What RECLAIMING did stays, also with NOROOM.)");
        NestedPager host = Hosts.withSlots(1);
        int frame = Hosts.firstPageFrame(host, 0);
        int page = host.owner(frame, 2);
        Check.due("room for the TABLE alone", host.access(1, 0, 64 * 16, 0), E);
        Check.due("NOROOM", host.exit(1, 0), Rig.NOROOM);
        Check.due("a page is SWAPPED", host.entry(0, page), 63 * 256 + 64 + 16);
        Check.due("its word", host.peek(0, page * 16), 1000 + page);
        Check.due("it was RECLAIMED", host.count(0, 7), 1);
        Check.due("THE HAND", host.host(2), frame + 1);
        Check.due("no SLOT is left", host.host(1), 0);
    }
}
